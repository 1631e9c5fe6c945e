/-! the law: vows -/
theorem perA_ok : ∀ i, i < 15 → (2 ≤ perA i ∧ perA i ≤ 120) ∧ Int.tmod 120 (perA i) = 0 := by decide
theorem xmax_max (a b : Int) : a ≤ xmax a b ∧ b ≤ xmax a b ∧ (xmax a b = a ∨ xmax a b = b) := by unfold xmax; split <;> omega
theorem LIN.ivo {T : Int} {N : Nat} {C D : xS} {o : xO} (h : LIN T N C) (hT : T ≤ 790000) (hi : 0 ≤ T → Ivo T C o) {N' : Nat} {v : Int} {c : Nat} (eo : o = (c, v, 4, N', D)) (hE : EX N' D) (hz : C 2 0 2 = 0 → ∀ j, j < N' → D 10 j 0 = 0 → D 10 j 5 = 0) (h2 : D 2 0 2 = C 2 0 2) : LIN (T + 1500) N' D := by
  obtain ⟨h1, _, h3, h4, h5, h6⟩ := h
  have hT0 := h1.1.2.2.1
  have hv := hi (by omega)
  unfold Ivo at hv
  rw [eo] at hv
  obtain ⟨a1, a2, a3⟩ := hv
  refine ⟨a1, a2, hE, fun i hi => ?_, fun j hj => ?_, fun z => hz (by rw [← h2]; exact z)⟩
  · have e : D 31 0 = C 31 0 := a3 31 0 (by omega) (by omega) (by omega) (by omega) (by omega) (by omega)
    rw [e]; exact h4 i hi
  · have e : D 21 0 = C 21 0 := a3 21 0 (by omega) (by omega) (by omega) (by omega) (by omega) (by omega)
    rw [e]; exact h5 j hj
theorem LIN.add {T : Int} {N o : Nat} {p b d : Int} {C : xS} (h : LIN T N C) (hT : T ≤ 790000) (ho : o < 4) (hw : wshP p b d) (hN : N < 20) (ha : accF 0 5 N p b d C = true) : LIN (T + 1500) (N + 1) (addT 0 N (o : Int) p b d C) := by
  obtain ⟨a1, a2, a3, a4⟩ := add_at (N := N) (o := (o : Int)) (p := p) (b := b) (d := d) (C := C)
  have ht := h.1.1.2.2.1
  have hwp := hw.1
  have hwb := hw.2
  refine h.ivo hT (fun z => i_promise (q := (o : Int)) (p := p) (b := b) (d := d) h.1 h.2.1 ⟨z, by omega⟩) (c := 0) (v := (N : Int)) ?_ (h.2.2.1.add ht.1 (by omega) (by omega)) (fun z j hj h0 => ?_) a2
  · unfold o_promise
    rw [if_pos ⟨by omega, by omega⟩, if_pos hw, if_pos hN, if_pos ha]
  · by_cases c : j = N
    · rw [c, a4]; exact z
    · rw [a3 j c] at h0 ⊢; exact h.2.2.2.2.2 z j (by omega) h0
set_option maxHeartbeats 4000000 in
theorem k_vows {w : xW} {S : xS} {B : String → xS → Prop} {A : Int → xS → Prop} {C : xS} {N : Nat} {T q : Int} (hB : BS q C S) (hL : LIN T N C) (hT : T ≤ 780000) (hw : w.2.2.2.2.2.1 < 1000) (hQ : q ≤ 900000) (hq : ∀ D N' S', LIN (T + 1500) N' D → BS (q + 8) D S' → A 1 S') : Ki w mL_vows yL_vows 1 6 [xp 30 0] S A B := by
  refine K.of rfl rfl rfl rfl (Nat.le_of_ble_eq_true rfl) rfl ?_
  obtain ⟨hV, g, hE, hper, h21, hz⟩ := id hL
  have hT2 : T ≤ 800000 := by omega
  have hN := hV.2.1
  have ht0 := hV.1.2.2.1
  have ph4 : ∀ (d1 : Nat) (P b l : Int) (S : xS), d1 < 4 → wshP P b l → BS (q + 4) C S → X w mL_vows (xTG w (fun v S' => ∃ a, v = some (xi a) ∧ A a S') B) 1 6 179 [xp 30 0, xi (d1 : Int), xi P, xi b, xi l, xi (N : Int), xi (b2i (accF 0 5 N P b l C = true)), xi (gbF P l N C l.toNat)] [] S := by
    intro d1 P b l S hd1 hws hB
    have hwp := hws.1
    have hwb := hws.2
    refine xs_iload_6 eL_vows_179 ?_
    refine xa_ifb_eq (tgt := 191) eL_vows_181 (by decide) (fun c181 => ?_) (fun c181 => ?_)
    · refine xs_aload_0 eL_vows_191 ?_
      refine g_X9_0 eL_vows_192 lRL_10 ?_
      refine xs_iload_1 eL_vows_195 ?_
      refine xs_iload_2 eL_vows_196 ?_
      refine xs_iload_3 eL_vows_197 ?_
      refine xs_iload_4 eL_vows_198 ?_
      refine xbi_W5 (mi' := mL_promise) (y := yL_promise) eL_vows_200 (xw_4 lRL_168 wy_L_promise) rfl ⟨wd_L_promise, by decide, by decide⟩ (Nat.le_of_ble_eq_true rfl) rfl ⟨by decide, by decide⟩ (w_promise hB hV hT2 hd1 hws (fun n1 n2 S9 hB9 => ?_) (fun n3 S8 hB8 => ?_))
      · have hL9 := (hB.L hL).add (by omega) hd1 hws n1 (by rw [hB.acc hN]; exact n2)
        have hVD := hL9.1
        have hT3 : T + 1500 ≤ 800000 := by omega
        obtain ⟨u1, u2, u3, u4⟩ := add_at (N := N) (o := (d1 : Int)) (p := P) (b := b) (d := l) (C := S)
        have v2 : S 2 0 2 = C 2 0 2 := by rw [hB.at (by decide) (by decide) (by unfold sct; omega)]
        generalize addT 0 N (d1 : Int) P b l S = D at hB9 hL9 hVD u1 u2 u3 u4
        exfalso
        first | exact c181 n2 | omega | (unfold b2i at c181; rw [if_pos n2] at c181; exact absurd c181 (by decide))
      · refine xa_bipush eL_vows_203 (by decide) ?_
        refine xa_icmp_ne (tgt := 225) eL_vows_205 (by decide) (by omega) (by omega) (fun c205 => ?_) (fun c205 => ?_)
        · exfalso; omega
        · refine xs_aload_0 eL_vows_208 ?_
          refine g_X9_0 eL_vows_209 lRL_10 ?_
          refine xa_iconst eL_vows_212 ?_
          refine xbi_W20 (mi' := mL_count) (y := yL_count) eL_vows_213 (xw_4 lRL_146 wy_L_count) rfl ⟨wd_L_count, by decide, by decide⟩ (Nat.le_of_ble_eq_true rfl) rfl (wc_2 hB8 hV hT2 ?_)
          refine xs_iload_5 eL_vows_216 ?_
          refine xa_icmp_ne (tgt := 225) eL_vows_218 (by decide) (by omega) (by omega) (fun c218 => ?_) (fun c218 => ?_)
          · exfalso; omega
          · refine xa_iconst eL_vows_221 ?_
            refine xa_goto (tgt := 226) eL_vows_222 (by decide) ?_
            exact xa_zret eL_vows_226 rfl (by omega) ⟨_, rfl, (by first | exact hq _ _ _ hL9 (hB9.mono (by omega)) | exact hq _ _ _ (hL.mono (by omega)) (hB8.mono (by omega)))⟩
    · refine xs_iload_5 eL_vows_184 ?_
      refine xa_bipush eL_vows_186 (by decide) ?_
      refine xa_icmp_ne (tgt := 227) eL_vows_188 (by decide) (by omega) (by omega) (fun c188 => ?_) (fun c188 => ?_)
      · refine xs_aload_0 eL_vows_227 ?_
        refine g_X9_0 eL_vows_228 lRL_10 ?_
        refine xs_iload_1 eL_vows_231 ?_
        refine xs_iload_2 eL_vows_232 ?_
        refine xs_iload_3 eL_vows_233 ?_
        refine xs_iload_4 eL_vows_234 ?_
        refine xbi_W5 (mi' := mL_promise) (y := yL_promise) eL_vows_236 (xw_4 lRL_168 wy_L_promise) rfl ⟨wd_L_promise, by decide, by decide⟩ (Nat.le_of_ble_eq_true rfl) rfl ⟨by decide, by decide⟩ (w_promise hB hV hT2 hd1 hws (fun n1 n2 S9 hB9 => ?_) (fun n3 S8 hB8 => ?_))
        · have hL9 := (hB.L hL).add (by omega) hd1 hws n1 (by rw [hB.acc hN]; exact n2)
          have hVD := hL9.1
          have hT3 : T + 1500 ≤ 800000 := by omega
          obtain ⟨u1, u2, u3, u4⟩ := add_at (N := N) (o := (d1 : Int)) (p := P) (b := b) (d := l) (C := S)
          have v2 : S 2 0 2 = C 2 0 2 := by rw [hB.at (by decide) (by decide) (by unfold sct; omega)]
          generalize addT 0 N (d1 : Int) P b l S = D at hB9 hL9 hVD u1 u2 u3 u4
          refine xs_iload_5 eL_vows_239 ?_
          refine xa_icmp_ne (tgt := 312) eL_vows_241 (by decide) (by omega) (by omega) (fun c241 => ?_) (fun c241 => ?_)
          · exfalso; omega
          · refine xs_aload_0 eL_vows_244 ?_
            refine g_X9_0 eL_vows_245 lRL_10 ?_
            refine xs_iload_5 eL_vows_248 ?_
            refine xa_iconst eL_vows_250 ?_
            refine xbi_W30 (mi' := mL_told) (y := yL_told) eL_vows_251 (xw_4 lRL_171 wy_L_told) rfl ⟨wd_L_told, by decide, by decide⟩ (Nat.le_of_ble_eq_true rfl) rfl (wt_1 hB9 hVD hT3 (show N < N + 1 by omega) ?_)
            refine xs_iload_1 eL_vows_254 ?_
            refine xa_icmp_ne (tgt := 312) eL_vows_255 (by decide) (by rw [u4]; show xr (d1 : Int); omega) (by omega) (fun c255 => ?_) (fun c255 => ?_)
            · exfalso; rw [u4] at c255; exact c255 rfl
            · refine xs_aload_0 eL_vows_258 ?_
              refine g_X9_0 eL_vows_259 lRL_10 ?_
              refine xs_iload_5 eL_vows_262 ?_
              refine xa_iconst eL_vows_264 ?_
              refine xbi_W30 (mi' := mL_told) (y := yL_told) eL_vows_265 (xw_4 lRL_171 wy_L_told) rfl ⟨wd_L_told, by decide, by decide⟩ (Nat.le_of_ble_eq_true rfl) rfl (wt_5 hB9 hVD hT3 (show N < N + 1 by omega) ?_)
              refine xs_aload_0 eL_vows_268 ?_
              refine g_X9_0 eL_vows_269 lRL_10 ?_
              refine xa_iconst eL_vows_272 ?_
              refine xbi_W20 (mi' := mL_count) (y := yL_count) eL_vows_273 (xw_4 lRL_146 wy_L_count) rfl ⟨wd_L_count, by decide, by decide⟩ (Nat.le_of_ble_eq_true rfl) rfl (wc_0 hB9 hVD hT3 ?_)
              refine xa_icmp_ne (tgt := 312) eL_vows_276 (by decide) (by rw [u4]; show xr (S 2 0 2); omega) (by rw [u2]; omega) (fun c276 => ?_) (fun c276 => ?_)
              · exfalso; rw [u4] at c276; exact c276 (by rw [u2]; rfl)
              · refine xs_aload_0 eL_vows_279 ?_
                refine g_X9_0 eL_vows_280 lRL_10 ?_
                refine xs_iload_5 eL_vows_283 ?_
                refine xa_bipush eL_vows_285 (by decide) ?_
                refine xbi_W30 (mi' := mL_told) (y := yL_told) eL_vows_287 (xw_4 lRL_171 wy_L_told) rfl ⟨wd_L_told, by decide, by decide⟩ (Nat.le_of_ble_eq_true rfl) rfl (wt_6 hB9 hVD hT3 (show N < N + 1 by omega) ?_)
                refine xa_iconst eL_vows_290 ?_
                refine xa_icmp_ne (tgt := 312) eL_vows_291 (by decide) (by rw [u4]; have hx7 : xbeg (d1 : Int) P b l (S 2 0 2) 7 = -1 := rfl; rw [hx7, if_neg (by omega)]; decide) (by decide) (fun c291 => ?_) (fun c291 => ?_)
                · exfalso; rw [u4] at c291; have hx7 : xbeg (d1 : Int) P b l (S 2 0 2) 7 = -1 := rfl; rw [hx7, if_neg (by omega)] at c291; exact c291 rfl
                · refine xs_aload_0 eL_vows_294 ?_
                  refine g_X9_0 eL_vows_295 lRL_10 ?_
                  refine xs_iload_5 eL_vows_298 ?_
                  refine xa_bipush eL_vows_300 (by decide) ?_
                  refine xbi_W30 (mi' := mL_told) (y := yL_told) eL_vows_302 (xw_4 lRL_171 wy_L_told) rfl ⟨wd_L_told, by decide, by decide⟩ (Nat.le_of_ble_eq_true rfl) rfl (wt_15 hB9 hVD hT3 (show N < N + 1 by omega) ?_)
                  refine xa_if_ne (tgt := 312) eL_vows_305 (by decide) (by rw [u4]; show xr 0; decide) (fun c305 => ?_) (fun c305 => ?_)
                  · exfalso; rw [u4] at c305; exact c305 rfl
                  · refine xa_iconst eL_vows_308 ?_
                    refine xa_goto (tgt := 313) eL_vows_309 (by decide) ?_
                    exact xa_zret eL_vows_313 rfl (by omega) ⟨_, rfl, (by first | exact hq _ _ _ hL9 (hB9.mono (by omega)) | exact hq _ _ _ (hL.mono (by omega)) (hB8.mono (by omega)))⟩
        · exfalso; exact n3 ⟨by omega, by first | exact c181 | exact Classical.byContradiction (fun z => by unfold b2i at c181; rw [if_neg z] at c181; exact c181 rfl)⟩
      · refine xs_aload_0 eL_vows_191 ?_
        refine g_X9_0 eL_vows_192 lRL_10 ?_
        refine xs_iload_1 eL_vows_195 ?_
        refine xs_iload_2 eL_vows_196 ?_
        refine xs_iload_3 eL_vows_197 ?_
        refine xs_iload_4 eL_vows_198 ?_
        refine xbi_W5 (mi' := mL_promise) (y := yL_promise) eL_vows_200 (xw_4 lRL_168 wy_L_promise) rfl ⟨wd_L_promise, by decide, by decide⟩ (Nat.le_of_ble_eq_true rfl) rfl ⟨by decide, by decide⟩ (w_promise hB hV hT2 hd1 hws (fun n1 n2 S9 hB9 => ?_) (fun n3 S8 hB8 => ?_))
        · have hL9 := (hB.L hL).add (by omega) hd1 hws n1 (by rw [hB.acc hN]; exact n2)
          have hVD := hL9.1
          have hT3 : T + 1500 ≤ 800000 := by omega
          obtain ⟨u1, u2, u3, u4⟩ := add_at (N := N) (o := (d1 : Int)) (p := P) (b := b) (d := l) (C := S)
          have v2 : S 2 0 2 = C 2 0 2 := by rw [hB.at (by decide) (by decide) (by unfold sct; omega)]
          generalize addT 0 N (d1 : Int) P b l S = D at hB9 hL9 hVD u1 u2 u3 u4
          exfalso
          first | exact c181 n2 | omega | (unfold b2i at c181; rw [if_pos n2] at c181; exact absurd c181 (by decide))
        · refine xa_bipush eL_vows_203 (by decide) ?_
          refine xa_icmp_ne (tgt := 225) eL_vows_205 (by decide) (by omega) (by omega) (fun c205 => ?_) (fun c205 => ?_)
          · exfalso; omega
          · refine xs_aload_0 eL_vows_208 ?_
            refine g_X9_0 eL_vows_209 lRL_10 ?_
            refine xa_iconst eL_vows_212 ?_
            refine xbi_W20 (mi' := mL_count) (y := yL_count) eL_vows_213 (xw_4 lRL_146 wy_L_count) rfl ⟨wd_L_count, by decide, by decide⟩ (Nat.le_of_ble_eq_true rfl) rfl (wc_2 hB8 hV hT2 ?_)
            refine xs_iload_5 eL_vows_216 ?_
            refine xa_icmp_ne (tgt := 225) eL_vows_218 (by decide) (by omega) (by omega) (fun c218 => ?_) (fun c218 => ?_)
            · exfalso; omega
            · refine xa_iconst eL_vows_221 ?_
              refine xa_goto (tgt := 226) eL_vows_222 (by decide) ?_
              exact xa_zret eL_vows_226 rfl (by omega) ⟨_, rfl, (by first | exact hq _ _ _ hL9 (hB9.mono (by omega)) | exact hq _ _ _ (hL.mono (by omega)) (hB8.mono (by omega)))⟩
  have ph3 : ∀ (d1 : Nat) (P b l : Int) (S : xS), d1 < 4 → wshP P b l → BS (q + 4) C S → X w mL_vows (xTG w (fun v S' => ∃ a, v = some (xi a) ∧ A a S') B) 1 6 146 [xp 30 0, xi (d1 : Int), xi P, xi b, xi l, xi (N : Int), xi (b2i (accF 0 5 N P b l C = true)), xi (gbF P l N C l.toNat)] [] S := by
    intro d1 P b l S hd1 hws hB
    have hwp := hws.1
    have hwb := hws.2
    refine xs_aload_0 eL_vows_146 ?_
    refine g_X9_0 eL_vows_147 lRL_10 ?_
    refine xa_iconst eL_vows_150 ?_
    refine xbi_W20 (mi' := mL_count) (y := yL_count) eL_vows_151 (xw_4 lRL_146 wy_L_count) rfl ⟨wd_L_count, by decide, by decide⟩ (Nat.le_of_ble_eq_true rfl) rfl (wc_0 hB hV hT2 ?_)
    refine xa_if_ne (tgt := 179) eL_vows_154 (by decide) (by omega) (fun c154 => ?_) (fun c154 => ?_)
    · first | exact ph4 d1 P b l _ hd1 hws hB7 | exact ph4 d1 P b l _ hd1 hws hB
    · refine xs_aload_0 eL_vows_157 ?_
      refine g_X9_0 eL_vows_158 lRL_10 ?_
      refine xs_iload_2 eL_vows_161 ?_
      refine xs_iload_3 eL_vows_162 ?_
      refine xs_iload_4 eL_vows_163 ?_
      refine xbi_W40 (mi' := mL_isBounded) (y := yL_isBounded) eL_vows_165 (xw_4 lRL_166 wy_L_isBounded) rfl ⟨wd_L_isBounded, by decide, by decide⟩ (Nat.le_of_ble_eq_true rfl) rfl (w_isBounded hB hV hT2 hws (fun hb1 S7 hB7 => ?_) (fun hb0 S7 hB7 => ?_))
      · refine xa_if_ne (tgt := 179) eL_vows_168 (by decide) (by decide) (fun c168 => ?_) (fun c168 => ?_)
        · first | exact ph4 d1 P b l _ hd1 hws hB7 | exact ph4 d1 P b l _ hd1 hws hB
        · exact absurd c168 (by decide)
      · refine xa_if_ne (tgt := 179) eL_vows_168 (by decide) (by decide) (fun c168 => ?_) (fun c168 => ?_)
        · exact absurd rfl c168
        · refine xs_iload_6 eL_vows_171 ?_
          refine xa_iconst eL_vows_173 ?_
          refine xa_icmp_ne (tgt := 179) eL_vows_174 (by decide) (b2i_r _) (by decide) (fun c174 => ?_) (fun c174 => ?_)
          · first | exact ph4 d1 P b l _ hd1 hws hB7 | exact ph4 d1 P b l _ hd1 hws hB
          · exfalso; refine hb0 (zero_bdd g (by omega) (hz (by omega)) hws.1 ⟨hws.2.1.1, hws.2.2.1, hws.2.2.2⟩ ?_)
            by_cases hh : accF 0 5 N P b l C = true
            · exact hh
            · unfold b2i at c174; rw [if_neg hh] at c174; exact absurd c174 (by decide)
  refine xs_aload_0 eL_vows_0 ?_
  refine xa_iconst eL_vows_1 ?_
  refine xbi_V10 (mi' := mL_draw) (y := yL_draw) eL_vows_2 (xw_5 lRL_152 wy_L_draw) rfl ⟨wd_L_draw, by decide, by decide⟩ (by decide) (fun _ => rfl) rfl (Nat.le_of_ble_eq_true rfl) rfl (k_draw hw hB (by omega) (by decide) (fun d1 S1 l1 hB1 => ?_))
  refine xs_istore_1 eL_vows_5 rfl ?_
  refine xs_aload_0 eL_vows_6 ?_
  refine g_X9_3 eL_vows_7 lRL_16 ?_
  refine xs_aload_0 eL_vows_10 ?_
  refine xa_bipush eL_vows_11 (by decide) ?_
  refine xbi_V10 (mi' := mL_draw) (y := yL_draw) eL_vows_13 (xw_5 lRL_152 wy_L_draw) rfl ⟨wd_L_draw, by decide, by decide⟩ (by decide) (fun _ => rfl) rfl (Nat.le_of_ble_eq_true rfl) rfl (k_draw hw hB1 (by omega) (by decide) (fun d2 S2 l2 hB2 => ?_))
  refine gar_31 eL_vows_16 (by omega) (fun r16 => ?_)
  have e16 : S2 31 0 (d2 : Int).toNat = perA d2 := by rw [Int.toNat_natCast, hB2.at (by decide) (by decide) (by unfold sct; omega)]; exact hper d2 (by omega)
  rw [e16]
  obtain ⟨hP, hP2⟩ := perA_ok d2 (by omega)
  generalize perA d2 = P at hP hP2
  refine xs_istore_2 eL_vows_17 rfl ?_
  refine xa_iconst eL_vows_18 ?_
  refine xs_aload_0 eL_vows_19 ?_
  refine xa_iconst eL_vows_20 ?_
  refine xs_iload_2 eL_vows_21 ?_
  refine xa_iconst eL_vows_22 ?_
  refine xa_idiv eL_vows_23 (by omega) (by omega) (by omega) ?_
  have e23 : Int.tdiv P 3 = P / 3 := Int.tdiv_eq_ediv_of_nonneg (by omega)
  rw [e23]
  refine xa_max eL_vows_24 lRL_32 lm_max1 li_Math lm_max2 (by decide) (Nat.le_of_ble_eq_true rfl) rfl (by decide) (by omega) ?_
  obtain ⟨m1, m2, m3⟩ := xmax_max 1 (P / 3)
  generalize xmax 1 (P / 3) = M at m1 m2 m3 ⊢
  refine xbi_V10 (mi' := mL_draw) (y := yL_draw) eL_vows_27 (xw_5 lRL_152 wy_L_draw) rfl ⟨wd_L_draw, by decide, by decide⟩ (by decide) (fun _ => rfl) rfl (Nat.le_of_ble_eq_true rfl) rfl (k_draw hw hB2 (by omega) (by omega) (fun d3 S3 l3 hB3 => ?_))
  refine xa_iadd eL_vows_30 ?_
  obtain ⟨b, hb⟩ : ∃ b, b = 1 + (d3 : Int) := ⟨_, rfl⟩
  rw [← hb]
  refine xs_istore_3 eL_vows_31 rfl ?_
  refine xs_iload_3 eL_vows_32 ?_
  refine xs_aload_0 eL_vows_33 ?_
  refine xs_iload_2 eL_vows_34 ?_
  refine xs_iload_3 eL_vows_35 ?_
  refine xa_isub eL_vows_36 ?_
  refine xa_iconst eL_vows_37 ?_
  refine xa_iadd eL_vows_38 ?_
  refine xbi_V10 (mi' := mL_draw) (y := yL_draw) eL_vows_39 (xw_5 lRL_152 wy_L_draw) rfl ⟨wd_L_draw, by decide, by decide⟩ (by decide) (fun _ => rfl) rfl (Nat.le_of_ble_eq_true rfl) rfl (k_draw hw hB3 (by omega) (by omega) (fun d4 S4 l4 hB4 => ?_))
  refine xa_iadd eL_vows_42 ?_
  replace hB4 : BS (q + 4) C S4 := hB4.mono (by omega)
  obtain ⟨l, hl⟩ : ∃ l, l = b + (d4 : Int) := ⟨_, rfl⟩
  rw [← hl]
  have hws : wshP P b l := ⟨⟨by omega, by omega, hP2⟩, by omega, by omega⟩
  obtain ⟨gb1, gb2, gb3⟩ := gb_fact (p := P) (d := l) (N := N) (C := C) l.toNat
  rw [Int.toNat_of_nonneg (by omega)] at gb1 gb3
  refine xs_istore_4 eL_vows_43 rfl ?_
  refine xs_aload_0 eL_vows_45 ?_
  refine g_X9_0 eL_vows_46 lRL_10 ?_
  refine xa_iconst eL_vows_49 ?_
  refine xbi_W20 (mi' := mL_count) (y := yL_count) eL_vows_50 (xw_4 lRL_146 wy_L_count) rfl ⟨wd_L_count, by decide, by decide⟩ (Nat.le_of_ble_eq_true rfl) rfl (wc_2 hB4 hV hT2 ?_)
  refine xs_istore_5 eL_vows_53 rfl ?_
  refine xs_aload_0 eL_vows_55 ?_
  refine g_X9_0 eL_vows_56 lRL_10 ?_
  refine xs_iload_2 eL_vows_59 ?_
  refine xs_iload_3 eL_vows_60 ?_
  refine xs_iload_4 eL_vows_61 ?_
  refine xbi_W40 (mi' := mL_canAccept) (y := yL_canAccept) eL_vows_63 (xw_4 lRL_162 wy_L_canAccept) rfl ⟨wd_L_canAccept, by decide, by decide⟩ (Nat.le_of_ble_eq_true rfl) rfl (w_canAccept hB4 hV hT2 hws (fun S5 hB5 => ?_))
  refine xs_istore_6 eL_vows_66 rfl ?_
  refine xs_aload_0 eL_vows_68 ?_
  refine g_X9_0 eL_vows_69 lRL_10 ?_
  refine xs_iload_2 eL_vows_72 ?_
  refine xs_iload_4 eL_vows_73 ?_
  refine xbi_W30 (mi' := mL_greatestBudget) (y := yL_greatestBudget) eL_vows_75 (xw_4 lRL_164 wy_L_greatestBudget) rfl ⟨wd_L_greatestBudget, by decide, by decide⟩ (Nat.le_of_ble_eq_true rfl) rfl (w_greatestBudget hB5 hV hT2 hws.1 (by omega) (fun S6 hB6 => ?_))
  refine xs_istore_7 eL_vows_78 rfl ?_
  refine xs_iload_6 eL_vows_80 ?_
  refine xa_iconst eL_vows_82 ?_
  refine xa_icmp_ne (tgt := 92) eL_vows_83 (by decide) (b2i_r _) (by decide) (fun c83 => ?_) (fun c83 => ?_)
  · refine xs_iload_7 eL_vows_92 ?_
    refine xs_iload_4 eL_vows_94 ?_
    refine xa_icmp_gt (tgt := 144) eL_vows_96 (by decide) (by omega) (by omega) (fun c96 => ?_) (fun c96 => ?_)
    · exfalso; omega
    · refine xs_iload_7 eL_vows_99 ?_
      refine xa_if_le (tgt := 120) eL_vows_101 (by decide) (by omega) (fun c101 => ?_) (fun c101 => ?_)
      · refine xs_iload_7 eL_vows_120 ?_
        refine xs_iload_4 eL_vows_122 ?_
        refine xa_icmp_ge (tgt := 146) eL_vows_124 (by decide) (by omega) (by omega) (fun c124 => ?_) (fun c124 => ?_)
        · first | exact ph3 d1 P b l _ (by omega) hws hB8 | exact ph3 d1 P b l _ (by omega) hws hB7 | exact ph3 d1 P b l _ (by omega) hws hB6
        · refine xs_aload_0 eL_vows_127 ?_
          refine g_X9_0 eL_vows_128 lRL_10 ?_
          refine xs_iload_2 eL_vows_131 ?_
          refine xs_iload_7 eL_vows_132 ?_
          refine xa_iconst eL_vows_134 ?_
          refine xa_iadd eL_vows_135 ?_
          refine xs_iload_4 eL_vows_136 ?_
          refine xbi_W40 (mi' := mL_canAccept) (y := yL_canAccept) eL_vows_138 (xw_4 lRL_162 wy_L_canAccept) rfl ⟨wd_L_canAccept, by decide, by decide⟩ (Nat.le_of_ble_eq_true rfl) rfl (w_canAccept (show BS (q + 4) C _ by first | exact hB7 | exact hB6) hV hT2 (p := P) (b := gbF P l N C l.toNat + 1) (d := l) ⟨hws.1, by omega, by omega⟩ (fun S8 hB8 => ?_))
          refine xa_if_eq (tgt := 146) eL_vows_141 (by decide) (b2i_r _) (fun c141 => ?_) (fun c141 => ?_)
          · first | exact ph3 d1 P b l _ (by omega) hws hB8 | exact ph3 d1 P b l _ (by omega) hws hB7 | exact ph3 d1 P b l _ (by omega) hws hB6
          · exfalso
            have hh := gb3 (gbF P l N C l.toNat + 1) (by omega) (by omega)
            unfold b2i at c141
            rw [if_neg hh] at c141
            exact c141 rfl
      · refine xs_aload_0 eL_vows_104 ?_
        refine g_X9_0 eL_vows_105 lRL_10 ?_
        refine xs_iload_2 eL_vows_108 ?_
        refine xs_iload_7 eL_vows_109 ?_
        refine xs_iload_4 eL_vows_111 ?_
        refine xbi_W40 (mi' := mL_canAccept) (y := yL_canAccept) eL_vows_113 (xw_4 lRL_162 wy_L_canAccept) rfl ⟨wd_L_canAccept, by decide, by decide⟩ (Nat.le_of_ble_eq_true rfl) rfl (w_canAccept hB6 hV hT2 (p := P) (b := gbF P l N C l.toNat) (d := l) ⟨hws.1, by omega, by omega⟩ (fun S7 hB7 => ?_))
        refine xa_iconst eL_vows_116 ?_
        refine xa_icmp_ne (tgt := 144) eL_vows_117 (by decide) (b2i_r _) (by decide) (fun c117 => ?_) (fun c117 => ?_)
        · exfalso
          have hh := gb2 (by omega)
          unfold b2i at c117
          rw [if_pos hh] at c117
          exact c117 rfl
        · refine xs_iload_7 eL_vows_120 ?_
          refine xs_iload_4 eL_vows_122 ?_
          refine xa_icmp_ge (tgt := 146) eL_vows_124 (by decide) (by omega) (by omega) (fun c124 => ?_) (fun c124 => ?_)
          · first | exact ph3 d1 P b l _ (by omega) hws hB8 | exact ph3 d1 P b l _ (by omega) hws hB7 | exact ph3 d1 P b l _ (by omega) hws hB6
          · refine xs_aload_0 eL_vows_127 ?_
            refine g_X9_0 eL_vows_128 lRL_10 ?_
            refine xs_iload_2 eL_vows_131 ?_
            refine xs_iload_7 eL_vows_132 ?_
            refine xa_iconst eL_vows_134 ?_
            refine xa_iadd eL_vows_135 ?_
            refine xs_iload_4 eL_vows_136 ?_
            refine xbi_W40 (mi' := mL_canAccept) (y := yL_canAccept) eL_vows_138 (xw_4 lRL_162 wy_L_canAccept) rfl ⟨wd_L_canAccept, by decide, by decide⟩ (Nat.le_of_ble_eq_true rfl) rfl (w_canAccept (show BS (q + 4) C _ by first | exact hB7 | exact hB6) hV hT2 (p := P) (b := gbF P l N C l.toNat + 1) (d := l) ⟨hws.1, by omega, by omega⟩ (fun S8 hB8 => ?_))
            refine xa_if_eq (tgt := 146) eL_vows_141 (by decide) (b2i_r _) (fun c141 => ?_) (fun c141 => ?_)
            · first | exact ph3 d1 P b l _ (by omega) hws hB8 | exact ph3 d1 P b l _ (by omega) hws hB7 | exact ph3 d1 P b l _ (by omega) hws hB6
            · exfalso
              have hh := gb3 (gbF P l N C l.toNat + 1) (by omega) (by omega)
              unfold b2i at c141
              rw [if_neg hh] at c141
              exact c141 rfl
  · refine xs_iload_7 eL_vows_86 ?_
    refine xs_iload_3 eL_vows_88 ?_
    refine xa_icmp_lt (tgt := 144) eL_vows_89 (by decide) (by omega) (by omega) (fun c89 => ?_) (fun c89 => ?_)
    · exfalso
      have hh : accF 0 5 N P b l C = true := by
        by_cases hh : accF 0 5 N P b l C = true
        · exact hh
        · unfold b2i at c83; rw [if_neg hh] at c83; omega
      exact gb3 b (by omega) (by omega) hh
    · refine xs_iload_7 eL_vows_92 ?_
      refine xs_iload_4 eL_vows_94 ?_
      refine xa_icmp_gt (tgt := 144) eL_vows_96 (by decide) (by omega) (by omega) (fun c96 => ?_) (fun c96 => ?_)
      · exfalso; omega
      · refine xs_iload_7 eL_vows_99 ?_
        refine xa_if_le (tgt := 120) eL_vows_101 (by decide) (by omega) (fun c101 => ?_) (fun c101 => ?_)
        · refine xs_iload_7 eL_vows_120 ?_
          refine xs_iload_4 eL_vows_122 ?_
          refine xa_icmp_ge (tgt := 146) eL_vows_124 (by decide) (by omega) (by omega) (fun c124 => ?_) (fun c124 => ?_)
          · first | exact ph3 d1 P b l _ (by omega) hws hB8 | exact ph3 d1 P b l _ (by omega) hws hB7 | exact ph3 d1 P b l _ (by omega) hws hB6
          · refine xs_aload_0 eL_vows_127 ?_
            refine g_X9_0 eL_vows_128 lRL_10 ?_
            refine xs_iload_2 eL_vows_131 ?_
            refine xs_iload_7 eL_vows_132 ?_
            refine xa_iconst eL_vows_134 ?_
            refine xa_iadd eL_vows_135 ?_
            refine xs_iload_4 eL_vows_136 ?_
            refine xbi_W40 (mi' := mL_canAccept) (y := yL_canAccept) eL_vows_138 (xw_4 lRL_162 wy_L_canAccept) rfl ⟨wd_L_canAccept, by decide, by decide⟩ (Nat.le_of_ble_eq_true rfl) rfl (w_canAccept (show BS (q + 4) C _ by first | exact hB7 | exact hB6) hV hT2 (p := P) (b := gbF P l N C l.toNat + 1) (d := l) ⟨hws.1, by omega, by omega⟩ (fun S8 hB8 => ?_))
            refine xa_if_eq (tgt := 146) eL_vows_141 (by decide) (b2i_r _) (fun c141 => ?_) (fun c141 => ?_)
            · first | exact ph3 d1 P b l _ (by omega) hws hB8 | exact ph3 d1 P b l _ (by omega) hws hB7 | exact ph3 d1 P b l _ (by omega) hws hB6
            · exfalso
              have hh := gb3 (gbF P l N C l.toNat + 1) (by omega) (by omega)
              unfold b2i at c141
              rw [if_neg hh] at c141
              exact c141 rfl
        · refine xs_aload_0 eL_vows_104 ?_
          refine g_X9_0 eL_vows_105 lRL_10 ?_
          refine xs_iload_2 eL_vows_108 ?_
          refine xs_iload_7 eL_vows_109 ?_
          refine xs_iload_4 eL_vows_111 ?_
          refine xbi_W40 (mi' := mL_canAccept) (y := yL_canAccept) eL_vows_113 (xw_4 lRL_162 wy_L_canAccept) rfl ⟨wd_L_canAccept, by decide, by decide⟩ (Nat.le_of_ble_eq_true rfl) rfl (w_canAccept hB6 hV hT2 (p := P) (b := gbF P l N C l.toNat) (d := l) ⟨hws.1, by omega, by omega⟩ (fun S7 hB7 => ?_))
          refine xa_iconst eL_vows_116 ?_
          refine xa_icmp_ne (tgt := 144) eL_vows_117 (by decide) (b2i_r _) (by decide) (fun c117 => ?_) (fun c117 => ?_)
          · exfalso
            have hh := gb2 (by omega)
            unfold b2i at c117
            rw [if_pos hh] at c117
            exact c117 rfl
          · refine xs_iload_7 eL_vows_120 ?_
            refine xs_iload_4 eL_vows_122 ?_
            refine xa_icmp_ge (tgt := 146) eL_vows_124 (by decide) (by omega) (by omega) (fun c124 => ?_) (fun c124 => ?_)
            · first | exact ph3 d1 P b l _ (by omega) hws hB8 | exact ph3 d1 P b l _ (by omega) hws hB7 | exact ph3 d1 P b l _ (by omega) hws hB6
            · refine xs_aload_0 eL_vows_127 ?_
              refine g_X9_0 eL_vows_128 lRL_10 ?_
              refine xs_iload_2 eL_vows_131 ?_
              refine xs_iload_7 eL_vows_132 ?_
              refine xa_iconst eL_vows_134 ?_
              refine xa_iadd eL_vows_135 ?_
              refine xs_iload_4 eL_vows_136 ?_
              refine xbi_W40 (mi' := mL_canAccept) (y := yL_canAccept) eL_vows_138 (xw_4 lRL_162 wy_L_canAccept) rfl ⟨wd_L_canAccept, by decide, by decide⟩ (Nat.le_of_ble_eq_true rfl) rfl (w_canAccept (show BS (q + 4) C _ by first | exact hB7 | exact hB6) hV hT2 (p := P) (b := gbF P l N C l.toNat + 1) (d := l) ⟨hws.1, by omega, by omega⟩ (fun S8 hB8 => ?_))
              refine xa_if_eq (tgt := 146) eL_vows_141 (by decide) (b2i_r _) (fun c141 => ?_) (fun c141 => ?_)
              · first | exact ph3 d1 P b l _ (by omega) hws hB8 | exact ph3 d1 P b l _ (by omega) hws hB7 | exact ph3 d1 P b l _ (by omega) hws hB6
              · exfalso
                have hh := gb3 (gbF P l N C l.toNat + 1) (by omega) (by omega)
                unfold b2i at c141
                rw [if_neg hh] at c141
                exact c141 rfl
