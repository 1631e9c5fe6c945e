/-! the reference: tokens, on -/
set_option maxHeartbeats 400000 in
theorem l3_X8_nextToken {w : xW} {S : xS} {B : String → xS → Prop} {A : xS → Prop} {n q r : Nat} {b rv : Int} (hn : S 30 0 14 = (n : Int)) (h7 : n ≤ 700) (hB : ∀ i, i < n → 0 ≤ S 41 0 i ∧ S 41 0 i ≤ 255) (hqn : q ≤ n) (hq : A (mt S (r : Int) (q : Int) 3 0 rv 0)) (hr0 : dgF (S 41 0) (n - q) q = r) (hv0 : vmF (S 41 0) (n - q) q 0 = rv) : X w mX8_nextToken (xTG w (fun v S' => v = none ∧ A S') B) 0 0 187 [xp 30 0, xi b] [] (mt S (q : Int) (q : Int) 3 0 0 0) := by
  have lp3 : ∀ x : Nat, x ≤ n → ∀ u : Int, q ≤ x → 0 ≤ u ∧ u ≤ 100000009 → dgF (S 41 0) (n - x) x = r → vmF (S 41 0) (n - x) x u = rv → X w mX8_nextToken (xTG w (fun v S' => v = none ∧ A S') B) 0 0 187 [xp 30 0, xi b] [] (mt S (x : Int) (q : Int) 3 0 u 0) := by
    refine nloop n (fun x hxn ih u hqx hu hr hv => ?_)
    have hb1 : x < n → bat (S 41 0) n x = S 41 0 x := fun z => if_pos z
    have hb2 : n ≤ x → bat (S 41 0) n x = -1 := fun z => if_neg (by omega)
    have hb3 := hB x
    refine xs_aload_0 eX8_nextToken_187 ?_
    refine xs_aload_0 eX8_nextToken_188 ?_
    refine gr_X8_15 eX8_nextToken_189 lRX8_275 (fun r189 => ?_)
    try simp (decide := true) only [mt_15, mt_16, mt_17, mt_18, mt_19, mt_22, mt_14, mt_41, hn, Int.toNat_natCast] at r189 ⊢
    refine xbi_V10 (mi' := mX8_byteAt) (y := yX8_byteAt) eX8_nextToken_192 (xw_5 lRX8_278 wy_X8_byteAt) rfl ⟨wd_X8_byteAt, by decide, by decide⟩ (by decide) (fun _ => rfl) rfl (Nat.le_of_ble_eq_true rfl) rfl (k_X8_byteAt (i := x) rfl (by omega) hn h7 ?_)
    rw [mt_41]
    refine xbi_S10 (mi' := mX8_isDigit) (y := yX8_isDigit) eX8_nextToken_195 (xw_4 lRX8_304 wy_X8_isDigit) rfl rfl ⟨wd_X8_isDigit, by decide, by decide⟩ (Nat.le_of_ble_eq_true rfl) rfl (k_X8_isDigit (by omega) ?_)
    refine xa_ifb_eq (tgt := 279) eX8_nextToken_198 (by decide) (fun c198 => ?_) (fun c198 => ?_)
    · exact xa_vret eX8_nextToken_279 rfl ⟨rfl, by have e1 : x = r := (by rw [← hr]; by_cases z : x < n; exact (by rw [dgF_s z, if_neg (by omega)]); exact (by rw [dgF_n (by omega)])) ; have e2 : u = rv := (by rw [← hv]; by_cases z : x < n; exact (by rw [vmF_s z, if_neg (by omega)]); exact (by rw [vmF_n (by omega)])) ; rw [e1, e2]; exact hq⟩
    · refine xs_aload_0 eX8_nextToken_201 ?_
      refine xs_aload_0 eX8_nextToken_202 ?_
      refine gr_X8_19 eX8_nextToken_203 lRX8_291 (fun r203 => ?_)
      try simp (decide := true) only [mt_15, mt_16, mt_17, mt_18, mt_19, mt_22, mt_14, mt_41, hn, Int.toNat_natCast] at r203 ⊢
      refine xa_ldcw (a := 10000000) eX8_nextToken_206 lRX8_307 (by decide) ?_
      refine xa_icmp_le (tgt := 219) eX8_nextToken_209 (by decide) (by omega) (by decide) (fun c209 => ?_) (fun c209 => ?_)
      · refine xa_bipush eX8_nextToken_219 (by decide) ?_
        refine xs_aload_0 eX8_nextToken_221 ?_
        refine gr_X8_19 eX8_nextToken_222 lRX8_291 (fun r222 => ?_)
        try simp (decide := true) only [mt_15, mt_16, mt_17, mt_18, mt_19, mt_22, mt_14, mt_41, hn, Int.toNat_natCast] at r222 ⊢
        refine xa_imul eX8_nextToken_225 ?_
        refine xs_aload_0 eX8_nextToken_226 ?_
        refine xs_aload_0 eX8_nextToken_227 ?_
        refine gr_X8_15 eX8_nextToken_228 lRX8_275 (fun r228 => ?_)
        try simp (decide := true) only [mt_15, mt_16, mt_17, mt_18, mt_19, mt_22, mt_14, mt_41, hn, Int.toNat_natCast] at r228 ⊢
        refine xbi_V10 (mi' := mX8_byteAt) (y := yX8_byteAt) eX8_nextToken_231 (xw_5 lRX8_278 wy_X8_byteAt) rfl ⟨wd_X8_byteAt, by decide, by decide⟩ (by decide) (fun _ => rfl) rfl (Nat.le_of_ble_eq_true rfl) rfl (k_X8_byteAt (i := x) rfl (by omega) hn h7 ?_)
        rw [mt_41]
        refine xa_iadd eX8_nextToken_234 ?_
        refine xa_bipush eX8_nextToken_235 (by decide) ?_
        refine xa_isub eX8_nextToken_237 ?_
        refine p_X8_19 eX8_nextToken_238 lRX8_291 (by omega) ?_
        rw [mt_up19]
        refine xs_aload_0 eX8_nextToken_241 ?_
        refine xa_dup eX8_nextToken_242 rfl ?_
        refine gr_X8_15 eX8_nextToken_243 lRX8_275 (fun r243 => ?_)
        try simp (decide := true) only [mt_15, mt_16, mt_17, mt_18, mt_19, mt_22, mt_14, mt_41, hn, Int.toNat_natCast] at r243 ⊢
        refine xa_iconst eX8_nextToken_246 ?_
        refine xa_iadd eX8_nextToken_247 ?_
        refine p_X8_15 eX8_nextToken_248 lRX8_275 (by omega) ?_
        rw [mt_up15]
        refine xa_goto (tgt := 187) eX8_nextToken_251 (by decide) ?_
        rw [hb1 (by omega)]
        have zn : x < n := by omega
        have h9 := ih (x + 1) (by omega) (by omega) (10 * u + S 41 0 x - 48) (by omega) (by omega) (by rw [← hr, dgF_s (p := x) zn, if_pos (by omega)]) (by rw [← hv, vmF_s (p := x) zn, if_pos (by omega), if_neg (by omega)])
        rw [show ((x + 1 : Nat) : Int) = (x : Int) + 1 by omega] at h9
        exact h9
      · refine xs_aload_0 eX8_nextToken_212 ?_
        refine gr_X8_19 eX8_nextToken_213 lRX8_291 (fun r213 => ?_)
        try simp (decide := true) only [mt_15, mt_16, mt_17, mt_18, mt_19, mt_22, mt_14, mt_41, hn, Int.toNat_natCast] at r213 ⊢
        refine xa_goto (tgt := 238) eX8_nextToken_216 (by decide) ?_
        refine p_X8_19 eX8_nextToken_238 lRX8_291 (by omega) ?_
        rw [mt_up19]
        refine xs_aload_0 eX8_nextToken_241 ?_
        refine xa_dup eX8_nextToken_242 rfl ?_
        refine gr_X8_15 eX8_nextToken_243 lRX8_275 (fun r243 => ?_)
        try simp (decide := true) only [mt_15, mt_16, mt_17, mt_18, mt_19, mt_22, mt_14, mt_41, hn, Int.toNat_natCast] at r243 ⊢
        refine xa_iconst eX8_nextToken_246 ?_
        refine xa_iadd eX8_nextToken_247 ?_
        refine p_X8_15 eX8_nextToken_248 lRX8_275 (by omega) ?_
        rw [mt_up15]
        refine xa_goto (tgt := 187) eX8_nextToken_251 (by decide) ?_
        have zn : x < n := by omega
        have h9 := ih (x + 1) (by omega) (by omega) (u) (by omega) (by omega) (by rw [← hr, dgF_s (p := x) zn, if_pos (by omega)]) (by rw [← hv, vmF_s (p := x) zn, if_pos (by omega), if_pos (by omega)])
        rw [show ((x + 1 : Nat) : Int) = (x : Int) + 1 by omega] at h9
        exact h9
  exact lp3 q hqn 0 (Nat.le_refl q) (by decide) hr0 hv0
set_option maxHeartbeats 400000 in
theorem k_X8_nextToken {w : xW} {S : xS} {B : String → xS → Prop} {A : xS → Prop} {n p : Nat} {s k l v d : Int} (hn : S 30 0 14 = (n : Int)) (h7 : n ≤ 700) (hB : ∀ i, i < n → 0 ≤ S 41 0 i ∧ S 41 0 i ≤ 255) (hp : p ≤ n) (hq : A (nxR n p S)) : Kv w mX8_nextToken yX8_nextToken 0 0 [xp 30 0] (mt S (p : Int) s k l v d) A B := by
  refine K.of rfl rfl rfl rfl (Nat.le_of_ble_eq_true rfl) rfl ?_
  obtain ⟨b0, hb0⟩ : ∃ b0 : xV, b0 = xj := ⟨_, rfl⟩
  rw [← hb0]
  have tl : ∀ q : Nat, q ≤ n → spF (S 41 0) (n - p) p = q → ∀ (s0 k0 l0 v0 d0 : Int) (b0 : xV), X w mX8_nextToken (xTG w (fun v S' => v = none ∧ A S') B) 0 0 39 [xp 30 0, b0] [] (mt S (q : Int) s0 k0 l0 v0 d0) := by
    intro q hqn hsp s0 k0 l0 v0 d0 b0
    have hb1 : q < n → bat (S 41 0) n q = S 41 0 q := fun z => if_pos z
    have hb2 : n ≤ q → bat (S 41 0) n q = -1 := fun z => if_neg (by omega)
    have hb3 := hB q
    refine xs_aload_0 eX8_nextToken_39 ?_
    refine xs_aload_0 eX8_nextToken_40 ?_
    refine gr_X8_15 eX8_nextToken_41 lRX8_275 (fun r41 => ?_)
    try simp (decide := true) only [mt_15, mt_16, mt_17, mt_18, mt_19, mt_22, mt_14, mt_41, hn, Int.toNat_natCast] at r41 ⊢
    refine p_X8_16 eX8_nextToken_44 lRX8_281 (by omega) ?_
    rw [mt_up16]
    refine xs_aload_0 eX8_nextToken_47 ?_
    refine xa_iconst eX8_nextToken_48 ?_
    refine p_X8_18 eX8_nextToken_49 lRX8_284 (by decide) ?_
    rw [mt_up18]
    refine xs_aload_0 eX8_nextToken_52 ?_
    refine xa_lconst0 eX8_nextToken_53 ?_
    refine p_X8_22 eX8_nextToken_54 lRX8_287 (by decide) ?_
    rw [mt_up22]
    refine xs_aload_0 eX8_nextToken_57 ?_
    refine xa_iconst eX8_nextToken_58 ?_
    refine p_X8_19 eX8_nextToken_59 lRX8_291 (by decide) ?_
    rw [mt_up19]
    refine xs_aload_0 eX8_nextToken_62 ?_
    refine xs_aload_0 eX8_nextToken_63 ?_
    refine gr_X8_15 eX8_nextToken_64 lRX8_275 (fun r64 => ?_)
    try simp (decide := true) only [mt_15, mt_16, mt_17, mt_18, mt_19, mt_22, mt_14, mt_41, hn, Int.toNat_natCast] at r64 ⊢
    refine xbi_V10 (mi' := mX8_byteAt) (y := yX8_byteAt) eX8_nextToken_67 (xw_5 lRX8_278 wy_X8_byteAt) rfl ⟨wd_X8_byteAt, by decide, by decide⟩ (by decide) (fun _ => rfl) rfl (Nat.le_of_ble_eq_true rfl) rfl (k_X8_byteAt (i := q) rfl (by omega) hn h7 ?_)
    rw [mt_41]
    refine xs_istore_1 eX8_nextToken_70 rfl ?_
    refine xs_iload_1 eX8_nextToken_71 ?_
    refine xa_iconst eX8_nextToken_72 ?_
    refine xa_icmp_ne (tgt := 84) eX8_nextToken_73 (by decide) (by omega) (by decide) (fun c73 => ?_) (fun c73 => ?_)
    · refine xs_iload_1 eX8_nextToken_84 ?_
      refine xbi_S10 (mi' := mX8_isLetter) (y := yX8_isLetter) eX8_nextToken_85 (xw_4 lRX8_297 wy_X8_isLetter) rfl rfl ⟨wd_X8_isLetter, by decide, by decide⟩ (Nat.le_of_ble_eq_true rfl) rfl (k_X8_isLetter (by omega) ?_)
      refine xa_ifb_eq (tgt := 175) eX8_nextToken_88 (by decide) (fun c88 => ?_) (fun c88 => ?_)
      · refine xs_iload_1 eX8_nextToken_175 ?_
        refine xbi_S10 (mi' := mX8_isDigit) (y := yX8_isDigit) eX8_nextToken_176 (xw_4 lRX8_304 wy_X8_isDigit) rfl rfl ⟨wd_X8_isDigit, by decide, by decide⟩ (Nat.le_of_ble_eq_true rfl) rfl (k_X8_isDigit (by omega) ?_)
        refine xa_ifb_eq (tgt := 254) eX8_nextToken_179 (by decide) (fun c179 => ?_) (fun c179 => ?_)
        · refine xs_aload_0 eX8_nextToken_254 ?_
          refine xs_iload_1 eX8_nextToken_255 ?_
          refine xa_bipush eX8_nextToken_256 (by decide) ?_
          refine xa_icmp_ne (tgt := 265) eX8_nextToken_258 (by decide) (by omega) (by decide) (fun c258 => ?_) (fun c258 => ?_)
          · refine xa_iconst eX8_nextToken_265 ?_
            refine p_X8_17 eX8_nextToken_266 lRX8_294 (by decide) ?_
            rw [mt_up17]
            refine xs_aload_0 eX8_nextToken_269 ?_
            refine xa_dup eX8_nextToken_270 rfl ?_
            refine gr_X8_15 eX8_nextToken_271 lRX8_275 (fun r271 => ?_)
            try simp (decide := true) only [mt_15, mt_16, mt_17, mt_18, mt_19, mt_22, mt_14, mt_41, hn, Int.toNat_natCast] at r271 ⊢
            refine xa_iconst eX8_nextToken_274 ?_
            refine xa_iadd eX8_nextToken_275 ?_
            refine p_X8_15 eX8_nextToken_276 lRX8_275 (by omega) ?_
            rw [mt_up15]
            exact xa_vret eX8_nextToken_279 rfl ⟨rfl, by first | (unfold nxR at hq; rw [hsp] at hq; rw [if_pos (show n ≤ q by omega)] at hq; exact hq) | (unfold nxR at hq; rw [hsp] at hq; rw [if_neg (show ¬ n ≤ q by omega), if_neg (show ¬ isL (S 41 0 q) by omega), if_neg (show ¬ isD (S 41 0 q) by omega), if_pos (show S 41 0 q = 59 by omega)] at hq; exact hq) | (unfold nxR at hq; rw [hsp] at hq; rw [if_neg (show ¬ n ≤ q by omega), if_neg (show ¬ isL (S 41 0 q) by omega), if_neg (show ¬ isD (S 41 0 q) by omega), if_neg (show ¬ S 41 0 q = 59 by omega)] at hq; exact hq)⟩
          · refine xa_iconst eX8_nextToken_261 ?_
            refine xa_goto (tgt := 266) eX8_nextToken_262 (by decide) ?_
            refine p_X8_17 eX8_nextToken_266 lRX8_294 (by decide) ?_
            rw [mt_up17]
            refine xs_aload_0 eX8_nextToken_269 ?_
            refine xa_dup eX8_nextToken_270 rfl ?_
            refine gr_X8_15 eX8_nextToken_271 lRX8_275 (fun r271 => ?_)
            try simp (decide := true) only [mt_15, mt_16, mt_17, mt_18, mt_19, mt_22, mt_14, mt_41, hn, Int.toNat_natCast] at r271 ⊢
            refine xa_iconst eX8_nextToken_274 ?_
            refine xa_iadd eX8_nextToken_275 ?_
            refine p_X8_15 eX8_nextToken_276 lRX8_275 (by omega) ?_
            rw [mt_up15]
            exact xa_vret eX8_nextToken_279 rfl ⟨rfl, by first | (unfold nxR at hq; rw [hsp] at hq; rw [if_pos (show n ≤ q by omega)] at hq; exact hq) | (unfold nxR at hq; rw [hsp] at hq; rw [if_neg (show ¬ n ≤ q by omega), if_neg (show ¬ isL (S 41 0 q) by omega), if_neg (show ¬ isD (S 41 0 q) by omega), if_pos (show S 41 0 q = 59 by omega)] at hq; exact hq) | (unfold nxR at hq; rw [hsp] at hq; rw [if_neg (show ¬ n ≤ q by omega), if_neg (show ¬ isL (S 41 0 q) by omega), if_neg (show ¬ isD (S 41 0 q) by omega), if_neg (show ¬ S 41 0 q = 59 by omega)] at hq; exact hq)⟩
        · refine xs_aload_0 eX8_nextToken_182 ?_
          refine xa_iconst eX8_nextToken_183 ?_
          refine p_X8_17 eX8_nextToken_184 lRX8_294 (by decide) ?_
          rw [mt_up17]
          unfold nxR at hq
          rw [hsp] at hq
          rw [if_neg (show ¬ n ≤ q by omega), if_neg (show ¬ isL (S 41 0 q) by omega), if_pos (show isD (S 41 0 q) by omega)] at hq
          exact l3_X8_nextToken hn h7 hB hqn hq rfl rfl
      · refine xs_aload_0 eX8_nextToken_91 ?_
        refine xa_iconst eX8_nextToken_92 ?_
        refine p_X8_17 eX8_nextToken_93 lRX8_294 (by decide) ?_
        rw [mt_up17]
        unfold nxR at hq
        rw [hsp] at hq
        rw [if_neg (show ¬ n ≤ q by omega), if_pos (show isL (S 41 0 q) by omega)] at hq
        exact l2_X8_nextToken hn h7 hB hqn hq rfl rfl
    · refine xs_aload_0 eX8_nextToken_76 ?_
      refine xa_iconst eX8_nextToken_77 ?_
      refine p_X8_17 eX8_nextToken_78 lRX8_294 (by decide) ?_
      rw [mt_up17]
      refine xa_goto (tgt := 279) eX8_nextToken_81 (by decide) ?_
      exact xa_vret eX8_nextToken_279 rfl ⟨rfl, by first | (unfold nxR at hq; rw [hsp] at hq; rw [if_pos (show n ≤ q by omega)] at hq; exact hq) | (unfold nxR at hq; rw [hsp] at hq; rw [if_neg (show ¬ n ≤ q by omega), if_neg (show ¬ isL (S 41 0 q) by omega), if_neg (show ¬ isD (S 41 0 q) by omega), if_pos (show S 41 0 q = 59 by omega)] at hq; exact hq) | (unfold nxR at hq; rw [hsp] at hq; rw [if_neg (show ¬ n ≤ q by omega), if_neg (show ¬ isL (S 41 0 q) by omega), if_neg (show ¬ isD (S 41 0 q) by omega), if_neg (show ¬ S 41 0 q = 59 by omega)] at hq; exact hq)⟩
  have lp1 : ∀ q : Nat, q ≤ n → spF (S 41 0) (n - q) q = spF (S 41 0) (n - p) p → X w mX8_nextToken (xTG w (fun v S' => v = none ∧ A S') B) 0 0 0 [xp 30 0, b0] [] (mt S (q : Int) s k l v d) := by
    refine nloop n (fun q hqn ih hr => ?_)
    have hb1 : q < n → bat (S 41 0) n q = S 41 0 q := fun z => if_pos z
    have hb2 : n ≤ q → bat (S 41 0) n q = -1 := fun z => if_neg (by omega)
    have hb3 := hB q
    refine xs_aload_0 eX8_nextToken_0 ?_
    refine xs_aload_0 eX8_nextToken_1 ?_
    refine gr_X8_15 eX8_nextToken_2 lRX8_275 (fun r2 => ?_)
    try simp (decide := true) only [mt_15, mt_16, mt_17, mt_18, mt_19, mt_22, mt_14, mt_41, hn, Int.toNat_natCast] at r2 ⊢
    refine xbi_V10 (mi' := mX8_byteAt) (y := yX8_byteAt) eX8_nextToken_5 (xw_5 lRX8_278 wy_X8_byteAt) rfl ⟨wd_X8_byteAt, by decide, by decide⟩ (by decide) (fun _ => rfl) rfl (Nat.le_of_ble_eq_true rfl) rfl (k_X8_byteAt (i := q) rfl (by omega) hn h7 ?_)
    rw [mt_41]
    refine xa_bipush eX8_nextToken_8 (by decide) ?_
    refine xa_icmp_eq (tgt := 26) eX8_nextToken_10 (by decide) (by omega) (by decide) (fun c10 => ?_) (fun c10 => ?_)
    · refine xs_aload_0 eX8_nextToken_26 ?_
      refine xa_dup eX8_nextToken_27 rfl ?_
      refine gr_X8_15 eX8_nextToken_28 lRX8_275 (fun r28 => ?_)
      try simp (decide := true) only [mt_15, mt_16, mt_17, mt_18, mt_19, mt_22, mt_14, mt_41, hn, Int.toNat_natCast] at r28 ⊢
      refine xa_iconst eX8_nextToken_31 ?_
      refine xa_iadd eX8_nextToken_32 ?_
      refine p_X8_15 eX8_nextToken_33 lRX8_275 (by omega) ?_
      rw [mt_up15]
      refine xa_goto (tgt := 0) eX8_nextToken_36 (by decide) ?_
      have zn : q < n := by omega
      have h9 := ih (q + 1) (by omega) (by omega) (by rw [← hr, spF_s (p := q) zn, if_pos (by omega)])
      rw [show ((q + 1 : Nat) : Int) = (q : Int) + 1 by omega] at h9
      exact h9
    · refine xs_aload_0 eX8_nextToken_13 ?_
      refine xs_aload_0 eX8_nextToken_14 ?_
      refine gr_X8_15 eX8_nextToken_15 lRX8_275 (fun r15 => ?_)
      try simp (decide := true) only [mt_15, mt_16, mt_17, mt_18, mt_19, mt_22, mt_14, mt_41, hn, Int.toNat_natCast] at r15 ⊢
      refine xbi_V10 (mi' := mX8_byteAt) (y := yX8_byteAt) eX8_nextToken_18 (xw_5 lRX8_278 wy_X8_byteAt) rfl ⟨wd_X8_byteAt, by decide, by decide⟩ (by decide) (fun _ => rfl) rfl (Nat.le_of_ble_eq_true rfl) rfl (k_X8_byteAt (i := q) rfl (by omega) hn h7 ?_)
      rw [mt_41]
      refine xa_bipush eX8_nextToken_21 (by decide) ?_
      refine xa_icmp_ne (tgt := 39) eX8_nextToken_23 (by decide) (by omega) (by decide) (fun c23 => ?_) (fun c23 => ?_)
      · exact tl q hqn (by rw [← hr]; by_cases z : q < n; exact (by rw [spF_s z, if_neg (by omega)]); exact (by rw [spF_n (by omega)])) s k l v d b0
      · refine xs_aload_0 eX8_nextToken_26 ?_
        refine xa_dup eX8_nextToken_27 rfl ?_
        refine gr_X8_15 eX8_nextToken_28 lRX8_275 (fun r28 => ?_)
        try simp (decide := true) only [mt_15, mt_16, mt_17, mt_18, mt_19, mt_22, mt_14, mt_41, hn, Int.toNat_natCast] at r28 ⊢
        refine xa_iconst eX8_nextToken_31 ?_
        refine xa_iadd eX8_nextToken_32 ?_
        refine p_X8_15 eX8_nextToken_33 lRX8_275 (by omega) ?_
        rw [mt_up15]
        refine xa_goto (tgt := 0) eX8_nextToken_36 (by decide) ?_
        have zn : q < n := by omega
        have h9 := ih (q + 1) (by omega) (by omega) (by rw [← hr, spF_s (p := q) zn, if_pos (by omega)])
        rw [show ((q + 1 : Nat) : Int) = (q : Int) + 1 by omega] at h9
        exact h9
  exact lp1 p hp rfl
