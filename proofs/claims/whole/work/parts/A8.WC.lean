/-! the law: its cases -/
/-! the law: its own rows -/
theorem xs_r (x : Int32) : xr x.toInt := ⟨Int32.le_toInt x, Int32.toInt_lt x⟩
theorem xs_63 (x : Int32) : 0 ≤ (x &&& Int32.ofInt 63).toInt ∧ (x &&& Int32.ofInt 63).toInt ≤ 63 := by
  have h1 : (x &&& Int32.ofInt 63).toInt = (x.toBitVec &&& (63#32)).toInt := rfl
  have h2 : (x.toBitVec &&& (63#32)).toNat ≤ 63 := by rw [BitVec.toNat_and]; exact Nat.and_le_right
  rw [h1, BitVec.toInt_eq_toNat_of_lt (by omega)]
  omega
section XW
variable {w : xW} {mi mi' : xM} {TG : xT} {k n k1 n1 pc pc' idx : Nat} {L st : List xV} {S : xS} {y : MethodName}
theorem xbi_H2 {b0 b1 : xV} {h0 : Nat × Nat × Nat × Nat} {t0 : List (Nat × Nat × Nat × Nat)} (h : xd mi.2.1 pc (.invokestatic idx) 3 pc') (hw : ∀ u ∈ [Cond.methodLink mi.1 idx y, .static y, .initialized y.cls, .codeWith y mi'.2.1 mi'.2.2.1 mi'.2.2.2.1 mi'.2.2.2.2.1], u ∈ xtb) (hh : mi'.2.2.2.2.1 = h0 :: t0) (hcl : xcl mi mi' y 2) (hk : k1 ≤ k ∧ n1 ≤ n) (hK : Ki w mi' y k1 n1 [b0, b1] S (fun a S' => X w mi TG (k - k1) (n - n1) pc' L [xi a] S') (fun _ _ => False)) : X w mi TG k n pc L (b1 :: b0 :: []) S := xa_callSW (k1 := k1) (n1 := n1) (as := [b0, b1]) (st := []) (B := fun _ _ => False) h hw hh hcl (by decide) hk hK (fun v S' hh9 => by obtain ⟨a, h1, h2⟩ := hh9; subst h1; exact h2) (fun E S' hh9 => hh9.elim) rfl
theorem xbi_H3 {b0 b1 b2 : xV} {h0 : Nat × Nat × Nat × Nat} {t0 : List (Nat × Nat × Nat × Nat)} (h : xd mi.2.1 pc (.invokestatic idx) 3 pc') (hw : ∀ u ∈ [Cond.methodLink mi.1 idx y, .static y, .initialized y.cls, .codeWith y mi'.2.1 mi'.2.2.1 mi'.2.2.2.1 mi'.2.2.2.2.1], u ∈ xtb) (hh : mi'.2.2.2.2.1 = h0 :: t0) (hcl : xcl mi mi' y 3) (hk : k1 ≤ k ∧ n1 ≤ n) (hK : Ki w mi' y k1 n1 [b0, b1, b2] S (fun a S' => X w mi TG (k - k1) (n - n1) pc' L [xi a] S') (fun _ _ => False)) : X w mi TG k n pc L (b2 :: b1 :: b0 :: []) S := xa_callSW (k1 := k1) (n1 := n1) (as := [b0, b1, b2]) (st := []) (B := fun _ _ => False) h hw hh hcl (by decide) hk hK (fun v S' hh9 => by obtain ⟨a, h1, h2⟩ := hh9; subst h1; exact h2) (fun E S' hh9 => hh9.elim) rfl
theorem xbi_H4 {b0 b1 b2 b3 : xV} {h0 : Nat × Nat × Nat × Nat} {t0 : List (Nat × Nat × Nat × Nat)} (h : xd mi.2.1 pc (.invokestatic idx) 3 pc') (hw : ∀ u ∈ [Cond.methodLink mi.1 idx y, .static y, .initialized y.cls, .codeWith y mi'.2.1 mi'.2.2.1 mi'.2.2.2.1 mi'.2.2.2.2.1], u ∈ xtb) (hh : mi'.2.2.2.2.1 = h0 :: t0) (hcl : xcl mi mi' y 4) (hk : k1 ≤ k ∧ n1 ≤ n) (hK : Ki w mi' y k1 n1 [b0, b1, b2, b3] S (fun a S' => X w mi TG (k - k1) (n - n1) pc' L [xi a] S') (fun _ _ => False)) : X w mi TG k n pc L (b3 :: b2 :: b1 :: b0 :: []) S := xa_callSW (k1 := k1) (n1 := n1) (as := [b0, b1, b2, b3]) (st := []) (B := fun _ _ => False) h hw hh hcl (by decide) hk hK (fun v S' hh9 => by obtain ⟨a, h1, h2⟩ := hh9; subst h1; exact h2) (fun E S' hh9 => hh9.elim) rfl
theorem xbi_H5 {b0 b1 b2 b3 b4 : xV} {h0 : Nat × Nat × Nat × Nat} {t0 : List (Nat × Nat × Nat × Nat)} (h : xd mi.2.1 pc (.invokestatic idx) 3 pc') (hw : ∀ u ∈ [Cond.methodLink mi.1 idx y, .static y, .initialized y.cls, .codeWith y mi'.2.1 mi'.2.2.1 mi'.2.2.2.1 mi'.2.2.2.2.1], u ∈ xtb) (hh : mi'.2.2.2.2.1 = h0 :: t0) (hcl : xcl mi mi' y 5) (hk : k1 ≤ k ∧ n1 ≤ n) (hK : Ki w mi' y k1 n1 [b0, b1, b2, b3, b4] S (fun a S' => X w mi TG (k - k1) (n - n1) pc' L [xi a] S') (fun _ _ => False)) : X w mi TG k n pc L (b4 :: b3 :: b2 :: b1 :: b0 :: []) S := xa_callSW (k1 := k1) (n1 := n1) (as := [b0, b1, b2, b3, b4]) (st := []) (B := fun _ _ => False) h hw hh hcl (by decide) hk hK (fun v S' hh9 => by obtain ⟨a, h1, h2⟩ := hh9; subst h1; exact h2) (fun E S' hh9 => hh9.elim) rfl
theorem xbi_H6 {b0 b1 b2 b3 b4 b5 : xV} {h0 : Nat × Nat × Nat × Nat} {t0 : List (Nat × Nat × Nat × Nat)} (h : xd mi.2.1 pc (.invokestatic idx) 3 pc') (hw : ∀ u ∈ [Cond.methodLink mi.1 idx y, .static y, .initialized y.cls, .codeWith y mi'.2.1 mi'.2.2.1 mi'.2.2.2.1 mi'.2.2.2.2.1], u ∈ xtb) (hh : mi'.2.2.2.2.1 = h0 :: t0) (hcl : xcl mi mi' y 6) (hk : k1 ≤ k ∧ n1 ≤ n) (hK : Ki w mi' y k1 n1 [b0, b1, b2, b3, b4, b5] S (fun a S' => X w mi TG (k - k1) (n - n1) pc' L [xi a] S') (fun _ _ => False)) : X w mi TG k n pc L (b5 :: b4 :: b3 :: b2 :: b1 :: b0 :: []) S := xa_callSW (k1 := k1) (n1 := n1) (as := [b0, b1, b2, b3, b4, b5]) (st := []) (B := fun _ _ => False) h hw hh hcl (by decide) hk hK (fun v S' hh9 => by obtain ⟨a, h1, h2⟩ := hh9; subst h1; exact h2) (fun E S' hh9 => hh9.elim) rfl
end XW
set_option maxHeartbeats 400000 in
theorem c_addProcess {w : xW} {TG : xT} {k n nn N c : Nat} {i T : Int} {l5 l6 l7 l8 : xV} {S : xS} (h : INV T nn N c S) (hT : 0 ≤ T ∧ T ≤ 790000) (hi : 0 ≤ i ∧ i + 4 < (w.2.2.2.2.2.1 : Int)) (hN : w.2.2.2.2.2.1 < 2147483648) (hk : ∀ (n' N' c' : Nat) (S' : xS) (l5 l6 l7 l8 : xV), INV (T + 1500) n' N' c' S' → X w mL_law TG k n 2358 [xp 52 0, xp 0 0, xp 30 0, xp 42 0, xi i, l5, l6, l7, l8] [] S') : X w mL_law TG (k + 1) (n + 6) 208 [xp 52 0, xp 0 0, xp 30 0, xp 42 0, xi i, l5, l6, l7, l8] [] S := by
  refine xs_aload_1 eL_law_208 ?_
  refine xs_aload_0 eL_law_209 ?_
  refine xs_iload_4 eL_law_210 ?_
  refine xa_iconst eL_law_212 ?_
  refine xa_iadd eL_law_213 ?_
  refine xa_sld eL_law_214 (by omega) hN ?_
  refine xs_aload_0 eL_law_215 ?_
  refine xs_iload_4 eL_law_216 ?_
  refine xa_iconst eL_law_218 ?_
  refine xa_iadd eL_law_219 ?_
  refine xa_sld eL_law_220 (by omega) hN ?_
  refine xs_aload_0 eL_law_221 ?_
  refine xs_iload_4 eL_law_222 ?_
  refine xa_iconst eL_law_224 ?_
  refine xa_iadd eL_law_225 ?_
  refine xa_sld eL_law_226 (by omega) hN ?_
  refine xs_aload_3 eL_law_227 ?_
  refine xbi_H5 (mi' := mL_addProcess) (y := yL_addProcess) (k1 := 1) (n1 := 6) eL_law_228 (zw_4 (xtb_in (i := 710) (by decide +kernel) (by decide +kernel)) wy_L_addProcess.1 li_RL wy_L_addProcess.2.2) rfl ⟨wd_L_addProcess, by decide, by decide⟩ (by omega) (w_addProcess h.1 (by omega) (xs_r _) (xs_r _) (xs_r _) (fun S1 hS1 => ?_))
  have io := i_addProcess (a := (w.2.2.2.2.2.2 (i + 1).toNat).toInt) (b := (w.2.2.2.2.2.2 (i + 2).toNat).toInt) (c := (w.2.2.2.2.2.2 (i + 3).toNat).toInt) h.1 h.2.1 (T := T) (by omega)
  have ht3 := t_addProcess (a := (w.2.2.2.2.2.2 (i + 1).toNat).toInt) (b := (w.2.2.2.2.2.2 (i + 2).toNat).toInt) (c := (w.2.2.2.2.2.2 (i + 3).toNat).toInt) (n := nn) (N := N) (C := S)
  have hR1 : Rel 0 nn N S (S1 31 0) := by rw [hS1.m io.2.2 (by decide) (by unfold sct; omega) (by omega) (by omega) (by omega) (by omega) (by omega) (by omega)]; exact h.2.2.1
  generalize ho : (o_addProcess (w.2.2.2.2.2.2 (i + 1).toNat).toInt (w.2.2.2.2.2.2 (i + 2).toNat).toInt (w.2.2.2.2.2.2 (i + 3).toNat).toInt nn N S) = o at hS1 io ht3
  refine xs_istore_5 eL_law_231 rfl ?_
  refine xs_aload_2 eL_law_233 ?_
  refine xs_aload_0 eL_law_234 ?_
  refine xs_iload_4 eL_law_235 ?_
  refine xa_iconst eL_law_237 ?_
  refine xa_iadd eL_law_238 ?_
  refine xa_sld eL_law_239 (by omega) hN ?_
  refine xs_aload_0 eL_law_240 ?_
  refine xs_iload_4 eL_law_241 ?_
  refine xa_iconst eL_law_243 ?_
  refine xa_iadd eL_law_244 ?_
  refine xa_sld eL_law_245 (by omega) hN ?_
  refine xs_aload_0 eL_law_246 ?_
  refine xs_iload_4 eL_law_247 ?_
  refine xa_iconst eL_law_249 ?_
  refine xa_iadd eL_law_250 ?_
  refine xa_sld eL_law_251 (by omega) hN ?_
  refine X_store (stM_self S1).symm ?_
  refine xbi_V30 (mi' := mX8_addProcess) (y := yX8_addProcess) eL_law_252 (xw_5 (xtb_in (i := 1192) (by decide +kernel) (by decide +kernel)) wy_X8_addProcess) rfl ⟨wd_X8_addProcess, by decide, by decide⟩ (by decide) (fun _ => rfl) rfl (Nat.le_of_ble_eq_true rfl) rfl (G_addProcess h.1 (by omega) hR1 (xs_r _) (xs_r _) (xs_r _) (fun r S2 M2 hr hf ht hrel => ?_))
  rw [ho] at hr ht hrel
  refine xs_istore_6 eL_law_255 rfl ?_
  refine xs_aload_2 eL_law_257 ?_
  refine xbi_V00 (mi' := mX8_thrown) (y := yX8_thrown) eL_law_258 (xw_5 (xtb_in (i := 1188) (by decide +kernel) (by decide +kernel)) wy_X8_thrown) rfl ⟨wd_X8_thrown, by decide, by decide⟩ (by decide) (fun _ => rfl) rfl (Nat.le_of_ble_eq_true rfl) rfl (k_X8_thrown ?_)
  rw [show stM M2 S2 30 0 4 = (o.1 : Int) by rw [stM_k (by decide)]; exact ht]
  refine xs_iload_5 eL_law_261 ?_
  refine xa_icmp_eq (tgt := 268) eL_law_263 (by decide) (by omega) (by omega) (fun c263 => ?_) (fun c263 => ?_)
  · refine xs_iload_5 eL_law_268 ?_
    refine xa_if_ne (tgt := 285) eL_law_270 (by decide) (by omega) (fun c270 => ?_) (fun c270 => ?_)
    · refine xa_goto (tgt := 2358) eL_law_285 (by decide) ?_
      exact hk _ _ _ _ _ _ _ _ (h.step io hS1 hf hrel)
    · refine xs_aload_3 eL_law_273 ?_
      refine xa_iconst eL_law_274 ?_
      refine gar_42 eL_law_275 (by decide) (fun r9 => ?_)
      refine xs_iload_6 eL_law_276 ?_
      refine xa_i2lw eL_law_278 ?_
      refine xa_lcmp eL_law_279 r9 (wr_64 _) ?_
      refine xa_ifc_eq (tgt := 285) eL_law_280 (by decide) (fun c280 => ?_) (fun c280 => ?_)
      · refine xa_goto (tgt := 2358) eL_law_285 (by decide) ?_
        exact hk _ _ _ _ _ _ _ _ (h.step io hS1 hf hrel)
      · exact absurd (by show stM M2 S2 42 0 0 = wr r; rw [(show stM M2 S2 42 0 0 = wr o.2.1 by rw [stM_k (by decide), hf.1 42 0 (by omega)]; exact hS1.val (by omega)), hr (by omega)]) c280
  · exact absurd rfl c263
set_option maxHeartbeats 400000 in
theorem c_setBid {w : xW} {TG : xT} {k n nn N c : Nat} {i T : Int} {l5 l6 l7 l8 : xV} {S : xS} (h : INV T nn N c S) (hT : 0 ≤ T ∧ T ≤ 790000) (hi : 0 ≤ i ∧ i + 4 < (w.2.2.2.2.2.1 : Int)) (hN : w.2.2.2.2.2.1 < 2147483648) (hk : ∀ (n' N' c' : Nat) (S' : xS) (l5 l6 l7 l8 : xV), INV (T + 1500) n' N' c' S' → X w mL_law TG k n 2358 [xp 52 0, xp 0 0, xp 30 0, xp 42 0, xi i, l5, l6, l7, l8] [] S') : X w mL_law TG (k + 1) (n + 6) 288 [xp 52 0, xp 0 0, xp 30 0, xp 42 0, xi i, l5, l6, l7, l8] [] S := by
  refine xs_aload_1 eL_law_288 ?_
  refine xs_aload_0 eL_law_289 ?_
  refine xs_iload_4 eL_law_290 ?_
  refine xa_iconst eL_law_292 ?_
  refine xa_iadd eL_law_293 ?_
  refine xa_sld eL_law_294 (by omega) hN ?_
  refine xs_aload_0 eL_law_295 ?_
  refine xs_iload_4 eL_law_296 ?_
  refine xa_iconst eL_law_298 ?_
  refine xa_iadd eL_law_299 ?_
  refine xa_sld eL_law_300 (by omega) hN ?_
  refine xs_aload_3 eL_law_301 ?_
  refine xbi_H4 (mi' := mL_setBid) (y := yL_setBid) (k1 := 1) (n1 := 6) eL_law_302 (zw_4 (xtb_in (i := 762) (by decide +kernel) (by decide +kernel)) wy_L_setBid.1 li_RL wy_L_setBid.2.2) rfl ⟨wd_L_setBid, by decide, by decide⟩ (by omega) (w_setBid h.1 (by omega) (xs_r _) (xs_r _) (fun S1 hS1 => ?_))
  have io := i_setBid (p := (w.2.2.2.2.2.2 (i + 1).toNat).toInt) (b := (w.2.2.2.2.2.2 (i + 2).toNat).toInt) h.1 h.2.1 (T := T) (by omega)
  have ht3 := t_setBid (p := (w.2.2.2.2.2.2 (i + 1).toNat).toInt) (b := (w.2.2.2.2.2.2 (i + 2).toNat).toInt) (n := nn) (N := N) (C := S)
  have hR1 : Rel 0 nn N S (S1 31 0) := by rw [hS1.m io.2.2 (by decide) (by unfold sct; omega) (by omega) (by omega) (by omega) (by omega) (by omega) (by omega)]; exact h.2.2.1
  generalize ho : (o_setBid (w.2.2.2.2.2.2 (i + 1).toNat).toInt (w.2.2.2.2.2.2 (i + 2).toNat).toInt nn N S) = o at hS1 io ht3
  refine xs_istore_5 eL_law_305 rfl ?_
  refine xs_aload_2 eL_law_307 ?_
  refine xs_aload_0 eL_law_308 ?_
  refine xs_iload_4 eL_law_309 ?_
  refine xa_iconst eL_law_311 ?_
  refine xa_iadd eL_law_312 ?_
  refine xa_sld eL_law_313 (by omega) hN ?_
  refine xs_aload_0 eL_law_314 ?_
  refine xs_iload_4 eL_law_315 ?_
  refine xa_iconst eL_law_317 ?_
  refine xa_iadd eL_law_318 ?_
  refine xa_sld eL_law_319 (by omega) hN ?_
  refine X_store (stM_self S1).symm ?_
  refine xbi_V20 (mi' := mX8_setBid) (y := yX8_setBid) eL_law_320 (xw_5 (xtb_in (i := 1219) (by decide +kernel) (by decide +kernel)) wy_X8_setBid) rfl ⟨wd_X8_setBid, by decide, by decide⟩ (by decide) (fun _ => rfl) rfl (Nat.le_of_ble_eq_true rfl) rfl (G_setBid h.1 (by omega) hR1 (xs_r _) (xs_r _) (fun r S2 M2 hr hf ht hrel => ?_))
  rw [ho] at hr ht hrel
  refine xs_istore_6 eL_law_323 rfl ?_
  refine xs_aload_2 eL_law_325 ?_
  refine xbi_V00 (mi' := mX8_thrown) (y := yX8_thrown) eL_law_326 (xw_5 (xtb_in (i := 1188) (by decide +kernel) (by decide +kernel)) wy_X8_thrown) rfl ⟨wd_X8_thrown, by decide, by decide⟩ (by decide) (fun _ => rfl) rfl (Nat.le_of_ble_eq_true rfl) rfl (k_X8_thrown ?_)
  rw [show stM M2 S2 30 0 4 = (o.1 : Int) by rw [stM_k (by decide)]; exact ht]
  refine xs_iload_5 eL_law_329 ?_
  refine xa_icmp_eq (tgt := 336) eL_law_331 (by decide) (by omega) (by omega) (fun c331 => ?_) (fun c331 => ?_)
  · refine xs_iload_5 eL_law_336 ?_
    refine xa_if_ne (tgt := 353) eL_law_338 (by decide) (by omega) (fun c338 => ?_) (fun c338 => ?_)
    · refine xa_goto (tgt := 2358) eL_law_353 (by decide) ?_
      exact hk _ _ _ _ _ _ _ _ (h.step io hS1 hf hrel)
    · refine xs_aload_3 eL_law_341 ?_
      refine xa_iconst eL_law_342 ?_
      refine gar_42 eL_law_343 (by decide) (fun r9 => ?_)
      refine xs_iload_6 eL_law_344 ?_
      refine xa_i2lw eL_law_346 ?_
      refine xa_lcmp eL_law_347 r9 (wr_64 _) ?_
      refine xa_ifc_eq (tgt := 353) eL_law_348 (by decide) (fun c348 => ?_) (fun c348 => ?_)
      · refine xa_goto (tgt := 2358) eL_law_353 (by decide) ?_
        exact hk _ _ _ _ _ _ _ _ (h.step io hS1 hf hrel)
      · exact absurd (by show stM M2 S2 42 0 0 = wr r; rw [(show stM M2 S2 42 0 0 = wr o.2.1 by rw [stM_k (by decide), hf.1 42 0 (by omega)]; exact hS1.val (by omega)), hr (by omega)]) c348
  · exact absurd rfl c331
set_option maxHeartbeats 400000 in
theorem c_setArrival {w : xW} {TG : xT} {k n nn N c : Nat} {i T : Int} {l5 l6 l7 l8 : xV} {S : xS} (h : INV T nn N c S) (hT : 0 ≤ T ∧ T ≤ 790000) (hi : 0 ≤ i ∧ i + 4 < (w.2.2.2.2.2.1 : Int)) (hN : w.2.2.2.2.2.1 < 2147483648) (hk : ∀ (n' N' c' : Nat) (S' : xS) (l5 l6 l7 l8 : xV), INV (T + 1500) n' N' c' S' → X w mL_law TG k n 2358 [xp 52 0, xp 0 0, xp 30 0, xp 42 0, xi i, l5, l6, l7, l8] [] S') : X w mL_law TG (k + 1) (n + 6) 356 [xp 52 0, xp 0 0, xp 30 0, xp 42 0, xi i, l5, l6, l7, l8] [] S := by
  refine xs_aload_1 eL_law_356 ?_
  refine xs_aload_0 eL_law_357 ?_
  refine xs_iload_4 eL_law_358 ?_
  refine xa_iconst eL_law_360 ?_
  refine xa_iadd eL_law_361 ?_
  refine xa_sld eL_law_362 (by omega) hN ?_
  refine xs_aload_0 eL_law_363 ?_
  refine xs_iload_4 eL_law_364 ?_
  refine xa_iconst eL_law_366 ?_
  refine xa_iadd eL_law_367 ?_
  refine xa_sld eL_law_368 (by omega) hN ?_
  refine xs_aload_0 eL_law_369 ?_
  refine xs_iload_4 eL_law_370 ?_
  refine xa_iconst eL_law_372 ?_
  refine xa_iadd eL_law_373 ?_
  refine xa_sld eL_law_374 (by omega) hN ?_
  refine xbi_H4 (mi' := mL_setArrival) (y := yL_setArrival) (k1 := 1) (n1 := 6) eL_law_375 (zw_4 (xtb_in (i := 771) (by decide +kernel) (by decide +kernel)) wy_L_setArrival.1 li_RL wy_L_setArrival.2.2) rfl ⟨wd_L_setArrival, by decide, by decide⟩ (by omega) (w_setArrival h.1 (by omega) (xs_r _) (xs_r _) (xs_r _) (fun S1 hS1 => ?_))
  have io := i_setArrival (p := (w.2.2.2.2.2.2 (i + 1).toNat).toInt) (e := (w.2.2.2.2.2.2 (i + 2).toNat).toInt) (a := (w.2.2.2.2.2.2 (i + 3).toNat).toInt) h.1 h.2.1 (T := T) (by omega)
  have ht3 := t_setArrival (p := (w.2.2.2.2.2.2 (i + 1).toNat).toInt) (e := (w.2.2.2.2.2.2 (i + 2).toNat).toInt) (a := (w.2.2.2.2.2.2 (i + 3).toNat).toInt) (n := nn) (N := N) (C := S)
  have hR1 : Rel 0 nn N S (S1 31 0) := by rw [hS1.m io.2.2 (by decide) (by unfold sct; omega) (by omega) (by omega) (by omega) (by omega) (by omega) (by omega)]; exact h.2.2.1
  generalize ho : (o_setArrival (w.2.2.2.2.2.2 (i + 1).toNat).toInt (w.2.2.2.2.2.2 (i + 2).toNat).toInt (w.2.2.2.2.2.2 (i + 3).toNat).toInt nn N S) = o at hS1 io ht3
  refine xs_istore_5 eL_law_378 rfl ?_
  refine xs_aload_2 eL_law_380 ?_
  refine xs_aload_0 eL_law_381 ?_
  refine xs_iload_4 eL_law_382 ?_
  refine xa_iconst eL_law_384 ?_
  refine xa_iadd eL_law_385 ?_
  refine xa_sld eL_law_386 (by omega) hN ?_
  refine xs_aload_0 eL_law_387 ?_
  refine xs_iload_4 eL_law_388 ?_
  refine xa_iconst eL_law_390 ?_
  refine xa_iadd eL_law_391 ?_
  refine xa_sld eL_law_392 (by omega) hN ?_
  refine xs_aload_0 eL_law_393 ?_
  refine xs_iload_4 eL_law_394 ?_
  refine xa_iconst eL_law_396 ?_
  refine xa_iadd eL_law_397 ?_
  refine xa_sld eL_law_398 (by omega) hN ?_
  refine X_store (stM_self S1).symm ?_
  refine xbv_V30 (mi' := mX8_setArrival) (y := yX8_setArrival) eL_law_399 (xw_5 (xtb_in (i := 1235) (by decide +kernel) (by decide +kernel)) wy_X8_setArrival) rfl ⟨wd_X8_setArrival, by decide, by decide⟩ (by decide) (fun _ => rfl) rfl (Nat.le_of_ble_eq_true rfl) rfl (G_setArrival h.1 (by omega) hR1 (xs_r _) (xs_r _) (xs_r _) (fun S2 M2 hf ht hrel => ?_))
  rw [ho] at ht hrel
  refine xs_aload_2 eL_law_402 ?_
  refine xbi_V00 (mi' := mX8_thrown) (y := yX8_thrown) eL_law_403 (xw_5 (xtb_in (i := 1188) (by decide +kernel) (by decide +kernel)) wy_X8_thrown) rfl ⟨wd_X8_thrown, by decide, by decide⟩ (by decide) (fun _ => rfl) rfl (Nat.le_of_ble_eq_true rfl) rfl (k_X8_thrown ?_)
  rw [show stM M2 S2 30 0 4 = (o.1 : Int) by rw [stM_k (by decide)]; exact ht]
  refine xs_iload_5 eL_law_406 ?_
  refine xa_icmp_eq (tgt := 413) eL_law_408 (by decide) (by omega) (by omega) (fun c408 => ?_) (fun c408 => ?_)
  · refine xa_goto (tgt := 2358) eL_law_413 (by decide) ?_
    exact hk _ _ _ _ _ _ _ _ (h.step io hS1 hf hrel)
  · exact absurd rfl c408
set_option maxHeartbeats 400000 in
theorem c_addWork {w : xW} {TG : xT} {k n nn N c : Nat} {i T : Int} {l5 l6 l7 l8 : xV} {S : xS} (h : INV T nn N c S) (hT : 0 ≤ T ∧ T ≤ 790000) (hi : 0 ≤ i ∧ i + 4 < (w.2.2.2.2.2.1 : Int)) (hN : w.2.2.2.2.2.1 < 2147483648) (hk : ∀ (n' N' c' : Nat) (S' : xS) (l5 l6 l7 l8 : xV), INV (T + 1500) n' N' c' S' → X w mL_law TG k n 2358 [xp 52 0, xp 0 0, xp 30 0, xp 42 0, xi i, l5, l6, l7, l8] [] S') : X w mL_law TG (k + 1) (n + 6) 416 [xp 52 0, xp 0 0, xp 30 0, xp 42 0, xi i, l5, l6, l7, l8] [] S := by
  refine xs_aload_1 eL_law_416 ?_
  refine xs_aload_0 eL_law_417 ?_
  refine xs_iload_4 eL_law_418 ?_
  refine xa_iconst eL_law_420 ?_
  refine xa_iadd eL_law_421 ?_
  refine xa_sld eL_law_422 (by omega) hN ?_
  refine xs_aload_0 eL_law_423 ?_
  refine xs_iload_4 eL_law_424 ?_
  refine xa_iconst eL_law_426 ?_
  refine xa_iadd eL_law_427 ?_
  refine xa_sld eL_law_428 (by omega) hN ?_
  refine xs_aload_3 eL_law_429 ?_
  refine xbi_H4 (mi' := mL_addWork) (y := yL_addWork) (k1 := 1) (n1 := 6) eL_law_430 (zw_4 (xtb_in (i := 778) (by decide +kernel) (by decide +kernel)) wy_L_addWork.1 li_RL wy_L_addWork.2.2) rfl ⟨wd_L_addWork, by decide, by decide⟩ (by omega) (w_addWork h.1 (by omega) (xs_r _) (xs_r _) (fun S1 hS1 => ?_))
  have io := i_addWork (p := (w.2.2.2.2.2.2 (i + 1).toNat).toInt) (t := (w.2.2.2.2.2.2 (i + 2).toNat).toInt) h.1 h.2.1 (T := T) (by omega)
  have ht3 := t_addWork (p := (w.2.2.2.2.2.2 (i + 1).toNat).toInt) (t := (w.2.2.2.2.2.2 (i + 2).toNat).toInt) (n := nn) (N := N) (C := S)
  have hR1 : Rel 0 nn N S (S1 31 0) := by rw [hS1.m io.2.2 (by decide) (by unfold sct; omega) (by omega) (by omega) (by omega) (by omega) (by omega) (by omega)]; exact h.2.2.1
  generalize ho : (o_addWork (w.2.2.2.2.2.2 (i + 1).toNat).toInt (w.2.2.2.2.2.2 (i + 2).toNat).toInt nn N S) = o at hS1 io ht3
  refine xs_istore_5 eL_law_433 rfl ?_
  refine xs_aload_2 eL_law_435 ?_
  refine xs_aload_0 eL_law_436 ?_
  refine xs_iload_4 eL_law_437 ?_
  refine xa_iconst eL_law_439 ?_
  refine xa_iadd eL_law_440 ?_
  refine xa_sld eL_law_441 (by omega) hN ?_
  refine xs_aload_0 eL_law_442 ?_
  refine xs_iload_4 eL_law_443 ?_
  refine xa_iconst eL_law_445 ?_
  refine xa_iadd eL_law_446 ?_
  refine xa_sld eL_law_447 (by omega) hN ?_
  refine X_store (stM_self S1).symm ?_
  refine xbi_V20 (mi' := mX8_addWork) (y := yX8_addWork) eL_law_448 (xw_5 (xtb_in (i := 1240) (by decide +kernel) (by decide +kernel)) wy_X8_addWork) rfl ⟨wd_X8_addWork, by decide, by decide⟩ (by decide) (fun _ => rfl) rfl (Nat.le_of_ble_eq_true rfl) rfl (G_addWork h.1 (by omega) hR1 (xs_r _) (xs_r _) (fun r S2 M2 hr hf ht hrel => ?_))
  rw [ho] at hr ht hrel
  refine xs_istore_6 eL_law_451 rfl ?_
  refine xs_aload_2 eL_law_453 ?_
  refine xbi_V00 (mi' := mX8_thrown) (y := yX8_thrown) eL_law_454 (xw_5 (xtb_in (i := 1188) (by decide +kernel) (by decide +kernel)) wy_X8_thrown) rfl ⟨wd_X8_thrown, by decide, by decide⟩ (by decide) (fun _ => rfl) rfl (Nat.le_of_ble_eq_true rfl) rfl (k_X8_thrown ?_)
  rw [show stM M2 S2 30 0 4 = (o.1 : Int) by rw [stM_k (by decide)]; exact ht]
  refine xs_iload_5 eL_law_457 ?_
  refine xa_icmp_eq (tgt := 464) eL_law_459 (by decide) (by omega) (by omega) (fun c459 => ?_) (fun c459 => ?_)
  · refine xs_iload_5 eL_law_464 ?_
    refine xa_if_ne (tgt := 481) eL_law_466 (by decide) (by omega) (fun c466 => ?_) (fun c466 => ?_)
    · refine xa_goto (tgt := 2358) eL_law_481 (by decide) ?_
      exact hk _ _ _ _ _ _ _ _ (h.step io hS1 hf hrel)
    · refine xs_aload_3 eL_law_469 ?_
      refine xa_iconst eL_law_470 ?_
      refine gar_42 eL_law_471 (by decide) (fun r9 => ?_)
      refine xs_iload_6 eL_law_472 ?_
      refine xa_i2lw eL_law_474 ?_
      refine xa_lcmp eL_law_475 r9 (wr_64 _) ?_
      refine xa_ifc_eq (tgt := 481) eL_law_476 (by decide) (fun c476 => ?_) (fun c476 => ?_)
      · refine xa_goto (tgt := 2358) eL_law_481 (by decide) ?_
        exact hk _ _ _ _ _ _ _ _ (h.step io hS1 hf hrel)
      · exact absurd (by show stM M2 S2 42 0 0 = wr r; rw [(show stM M2 S2 42 0 0 = wr o.2.1 by rw [stM_k (by decide), hf.1 42 0 (by omega)]; exact hS1.val (by omega)), hr (by omega)]) c476
  · exact absurd rfl c459
set_option maxHeartbeats 400000 in
theorem c_pay {w : xW} {TG : xT} {k n nn N c : Nat} {i T : Int} {l5 l6 l7 l8 : xV} {S : xS} (h : INV T nn N c S) (hT : 0 ≤ T ∧ T ≤ 790000) (hi : 0 ≤ i ∧ i + 4 < (w.2.2.2.2.2.1 : Int)) (hN : w.2.2.2.2.2.1 < 2147483648) (hk : ∀ (n' N' c' : Nat) (S' : xS) (l5 l6 l7 l8 : xV), INV (T + 1500) n' N' c' S' → X w mL_law TG k n 2358 [xp 52 0, xp 0 0, xp 30 0, xp 42 0, xi i, l5, l6, l7, l8] [] S') : X w mL_law TG (k + 1) (n + 6) 484 [xp 52 0, xp 0 0, xp 30 0, xp 42 0, xi i, l5, l6, l7, l8] [] S := by
  refine xs_aload_1 eL_law_484 ?_
  refine xs_aload_0 eL_law_485 ?_
  refine xs_iload_4 eL_law_486 ?_
  refine xa_iconst eL_law_488 ?_
  refine xa_iadd eL_law_489 ?_
  refine xa_sld eL_law_490 (by omega) hN ?_
  refine xs_aload_0 eL_law_491 ?_
  refine xs_iload_4 eL_law_492 ?_
  refine xa_iconst eL_law_494 ?_
  refine xa_iadd eL_law_495 ?_
  refine xa_sld eL_law_496 (by omega) hN ?_
  refine xs_aload_3 eL_law_497 ?_
  refine xbi_H4 (mi' := mL_pay) (y := yL_pay) (k1 := 1) (n1 := 6) eL_law_498 (zw_4 (xtb_in (i := 790) (by decide +kernel) (by decide +kernel)) wy_L_pay.1 li_RL wy_L_pay.2.2) rfl ⟨wd_L_pay, by decide, by decide⟩ (by omega) (w_pay h.1 (by omega) (xs_r _) (xs_r _) (fun S1 hS1 => ?_))
  have io := i_pay (p := (w.2.2.2.2.2.2 (i + 1).toNat).toInt) (t := (w.2.2.2.2.2.2 (i + 2).toNat).toInt) h.1 h.2.1 (T := T) (by omega)
  have ht3 := t_pay (p := (w.2.2.2.2.2.2 (i + 1).toNat).toInt) (t := (w.2.2.2.2.2.2 (i + 2).toNat).toInt) (n := nn) (N := N) (C := S)
  have hR1 : Rel 0 nn N S (S1 31 0) := by rw [hS1.m io.2.2 (by decide) (by unfold sct; omega) (by omega) (by omega) (by omega) (by omega) (by omega) (by omega)]; exact h.2.2.1
  generalize ho : (o_pay (w.2.2.2.2.2.2 (i + 1).toNat).toInt (w.2.2.2.2.2.2 (i + 2).toNat).toInt nn N S) = o at hS1 io ht3
  refine xs_istore_5 eL_law_501 rfl ?_
  refine xs_aload_2 eL_law_503 ?_
  refine xs_aload_0 eL_law_504 ?_
  refine xs_iload_4 eL_law_505 ?_
  refine xa_iconst eL_law_507 ?_
  refine xa_iadd eL_law_508 ?_
  refine xa_sld eL_law_509 (by omega) hN ?_
  refine xs_aload_0 eL_law_510 ?_
  refine xs_iload_4 eL_law_511 ?_
  refine xa_iconst eL_law_513 ?_
  refine xa_iadd eL_law_514 ?_
  refine xa_sld eL_law_515 (by omega) hN ?_
  refine X_store (stM_self S1).symm ?_
  refine xbi_V20 (mi' := mX8_pay) (y := yX8_pay) eL_law_516 (xw_5 (xtb_in (i := 1250) (by decide +kernel) (by decide +kernel)) wy_X8_pay) rfl ⟨wd_X8_pay, by decide, by decide⟩ (by decide) (fun _ => rfl) rfl (Nat.le_of_ble_eq_true rfl) rfl (G_pay h.1 (by omega) hR1 (xs_r _) (xs_r _) (fun r S2 M2 hr hf ht hrel => ?_))
  rw [ho] at hr ht hrel
  refine xs_istore_6 eL_law_519 rfl ?_
  refine xs_aload_2 eL_law_521 ?_
  refine xbi_V00 (mi' := mX8_thrown) (y := yX8_thrown) eL_law_522 (xw_5 (xtb_in (i := 1188) (by decide +kernel) (by decide +kernel)) wy_X8_thrown) rfl ⟨wd_X8_thrown, by decide, by decide⟩ (by decide) (fun _ => rfl) rfl (Nat.le_of_ble_eq_true rfl) rfl (k_X8_thrown ?_)
  rw [show stM M2 S2 30 0 4 = (o.1 : Int) by rw [stM_k (by decide)]; exact ht]
  refine xs_iload_5 eL_law_525 ?_
  refine xa_icmp_eq (tgt := 532) eL_law_527 (by decide) (by omega) (by omega) (fun c527 => ?_) (fun c527 => ?_)
  · refine xs_iload_5 eL_law_532 ?_
    refine xa_if_ne (tgt := 549) eL_law_534 (by decide) (by omega) (fun c534 => ?_) (fun c534 => ?_)
    · refine xa_goto (tgt := 2358) eL_law_549 (by decide) ?_
      exact hk _ _ _ _ _ _ _ _ (h.step io hS1 hf hrel)
    · refine xs_aload_3 eL_law_537 ?_
      refine xa_iconst eL_law_538 ?_
      refine gar_42 eL_law_539 (by decide) (fun r9 => ?_)
      refine xs_iload_6 eL_law_540 ?_
      refine xa_i2lw eL_law_542 ?_
      refine xa_lcmp eL_law_543 r9 (wr_64 _) ?_
      refine xa_ifc_eq (tgt := 549) eL_law_544 (by decide) (fun c544 => ?_) (fun c544 => ?_)
      · refine xa_goto (tgt := 2358) eL_law_549 (by decide) ?_
        exact hk _ _ _ _ _ _ _ _ (h.step io hS1 hf hrel)
      · exact absurd (by show stM M2 S2 42 0 0 = wr r; rw [(show stM M2 S2 42 0 0 = wr o.2.1 by rw [stM_k (by decide), hf.1 42 0 (by omega)]; exact hS1.val (by omega)), hr (by omega)]) c544
  · exact absurd rfl c527
set_option maxHeartbeats 400000 in
theorem c_process {w : xW} {TG : xT} {k n nn N c : Nat} {i T : Int} {l5 l6 l7 l8 : xV} {S : xS} (h : INV T nn N c S) (hT : 0 ≤ T ∧ T ≤ 790000) (hi : 0 ≤ i ∧ i + 4 < (w.2.2.2.2.2.1 : Int)) (hN : w.2.2.2.2.2.1 < 2147483648) (hk : ∀ (n' N' c' : Nat) (S' : xS) (l5 l6 l7 l8 : xV), INV (T + 1500) n' N' c' S' → X w mL_law TG k n 2358 [xp 52 0, xp 0 0, xp 30 0, xp 42 0, xi i, l5, l6, l7, l8] [] S') : X w mL_law TG (k + 1) (n + 6) 552 [xp 52 0, xp 0 0, xp 30 0, xp 42 0, xi i, l5, l6, l7, l8] [] S := by
  refine xs_aload_1 eL_law_552 ?_
  refine xs_aload_0 eL_law_553 ?_
  refine xs_iload_4 eL_law_554 ?_
  refine xa_iconst eL_law_556 ?_
  refine xa_iadd eL_law_557 ?_
  refine xa_sld eL_law_558 (by omega) hN ?_
  refine xs_aload_0 eL_law_559 ?_
  refine xs_iload_4 eL_law_560 ?_
  refine xa_iconst eL_law_562 ?_
  refine xa_iadd eL_law_563 ?_
  refine xa_sld eL_law_564 (by omega) hN ?_
  refine xs_aload_3 eL_law_565 ?_
  refine xbi_H4 (mi' := mL_process) (y := yL_process) (k1 := 1) (n1 := 6) eL_law_566 (zw_4 (xtb_in (i := 802) (by decide +kernel) (by decide +kernel)) wy_L_process.1 li_RL wy_L_process.2.2) rfl ⟨wd_L_process, by decide, by decide⟩ (by omega) (w_process h.1 (by omega) (xs_r _) (xs_r _) (fun S1 hS1 => ?_))
  have io := i_process (p := (w.2.2.2.2.2.2 (i + 1).toNat).toInt) (a := (w.2.2.2.2.2.2 (i + 2).toNat).toInt) h.1 h.2.1 (T := T) (by omega)
  have ht3 := t_process (p := (w.2.2.2.2.2.2 (i + 1).toNat).toInt) (a := (w.2.2.2.2.2.2 (i + 2).toNat).toInt) (n := nn) (N := N) (C := S)
  have hR1 : Rel 0 nn N S (S1 31 0) := by rw [hS1.m io.2.2 (by decide) (by unfold sct; omega) (by omega) (by omega) (by omega) (by omega) (by omega) (by omega)]; exact h.2.2.1
  generalize ho : (o_process (w.2.2.2.2.2.2 (i + 1).toNat).toInt (w.2.2.2.2.2.2 (i + 2).toNat).toInt nn N S) = o at hS1 io ht3
  refine xs_istore_5 eL_law_569 rfl ?_
  refine xs_aload_2 eL_law_571 ?_
  refine xs_aload_0 eL_law_572 ?_
  refine xs_iload_4 eL_law_573 ?_
  refine xa_iconst eL_law_575 ?_
  refine xa_iadd eL_law_576 ?_
  refine xa_sld eL_law_577 (by omega) hN ?_
  refine xs_aload_0 eL_law_578 ?_
  refine xs_iload_4 eL_law_579 ?_
  refine xa_iconst eL_law_581 ?_
  refine xa_iadd eL_law_582 ?_
  refine xa_sld eL_law_583 (by omega) hN ?_
  refine X_store (stM_self S1).symm ?_
  refine xbi_V20 (mi' := mX8_process) (y := yX8_process) eL_law_584 (xw_5 (xtb_in (i := 1260) (by decide +kernel) (by decide +kernel)) wy_X8_process) rfl ⟨wd_X8_process, by decide, by decide⟩ (by decide) (fun _ => rfl) rfl (Nat.le_of_ble_eq_true rfl) rfl (G_process h.1 (by omega) hR1 (xs_r _) (xs_r _) (fun r S2 M2 hr hf ht hrel => ?_))
  rw [ho] at hr ht hrel
  refine xs_istore_6 eL_law_587 rfl ?_
  refine xs_aload_2 eL_law_589 ?_
  refine xbi_V00 (mi' := mX8_thrown) (y := yX8_thrown) eL_law_590 (xw_5 (xtb_in (i := 1188) (by decide +kernel) (by decide +kernel)) wy_X8_thrown) rfl ⟨wd_X8_thrown, by decide, by decide⟩ (by decide) (fun _ => rfl) rfl (Nat.le_of_ble_eq_true rfl) rfl (k_X8_thrown ?_)
  rw [show stM M2 S2 30 0 4 = (o.1 : Int) by rw [stM_k (by decide)]; exact ht]
  refine xs_iload_5 eL_law_593 ?_
  refine xa_icmp_eq (tgt := 600) eL_law_595 (by decide) (by omega) (by omega) (fun c595 => ?_) (fun c595 => ?_)
  · refine xs_iload_5 eL_law_600 ?_
    refine xa_if_ne (tgt := 617) eL_law_602 (by decide) (by omega) (fun c602 => ?_) (fun c602 => ?_)
    · refine xa_goto (tgt := 2358) eL_law_617 (by decide) ?_
      exact hk _ _ _ _ _ _ _ _ (h.step io hS1 hf hrel)
    · refine xs_aload_3 eL_law_605 ?_
      refine xa_iconst eL_law_606 ?_
      refine gar_42 eL_law_607 (by decide) (fun r9 => ?_)
      refine xs_iload_6 eL_law_608 ?_
      refine xa_i2lw eL_law_610 ?_
      refine xa_lcmp eL_law_611 r9 (wr_64 _) ?_
      refine xa_ifc_eq (tgt := 617) eL_law_612 (by decide) (fun c612 => ?_) (fun c612 => ?_)
      · refine xa_goto (tgt := 2358) eL_law_617 (by decide) ?_
        exact hk _ _ _ _ _ _ _ _ (h.step io hS1 hf hrel)
      · exact absurd (by show stM M2 S2 42 0 0 = wr r; rw [(show stM M2 S2 42 0 0 = wr o.2.1 by rw [stM_k (by decide), hf.1 42 0 (by omega)]; exact hS1.val (by omega)), hr (by omega)]) c612
  · exact absurd rfl c595
set_option maxHeartbeats 400000 in
theorem c_promise {w : xW} {TG : xT} {k n nn N c : Nat} {i T : Int} {l5 l6 l7 l8 : xV} {S : xS} (h : INV T nn N c S) (hT : 0 ≤ T ∧ T ≤ 790000) (hi : 0 ≤ i ∧ i + 4 < (w.2.2.2.2.2.1 : Int)) (hN : w.2.2.2.2.2.1 < 2147483648) (hk : ∀ (n' N' c' : Nat) (S' : xS) (l5 l6 l7 l8 : xV), INV (T + 1500) n' N' c' S' → X w mL_law TG k n 2358 [xp 52 0, xp 0 0, xp 30 0, xp 42 0, xi i, l5, l6, l7, l8] [] S') : X w mL_law TG (k + 1) (n + 6) 620 [xp 52 0, xp 0 0, xp 30 0, xp 42 0, xi i, l5, l6, l7, l8] [] S := by
  refine xs_aload_1 eL_law_620 ?_
  refine xs_aload_0 eL_law_621 ?_
  refine xs_iload_4 eL_law_622 ?_
  refine xa_iconst eL_law_624 ?_
  refine xa_iadd eL_law_625 ?_
  refine xa_sld eL_law_626 (by omega) hN ?_
  refine xs_aload_0 eL_law_627 ?_
  refine xs_iload_4 eL_law_628 ?_
  refine xa_iconst eL_law_630 ?_
  refine xa_iadd eL_law_631 ?_
  refine xa_sld eL_law_632 (by omega) hN ?_
  refine xs_aload_0 eL_law_633 ?_
  refine xs_iload_4 eL_law_634 ?_
  refine xa_iconst eL_law_636 ?_
  refine xa_iadd eL_law_637 ?_
  refine xa_sld eL_law_638 (by omega) hN ?_
  refine xs_aload_0 eL_law_639 ?_
  refine xs_iload_4 eL_law_640 ?_
  refine xa_iconst eL_law_642 ?_
  refine xa_iadd eL_law_643 ?_
  refine xa_sld eL_law_644 (by omega) hN ?_
  refine xs_aload_3 eL_law_645 ?_
  refine xbi_H6 (mi' := mL_promise) (y := yL_promise) (k1 := 1) (n1 := 6) eL_law_646 (zw_4 (xtb_in (i := 817) (by decide +kernel) (by decide +kernel)) wy_L_promise.1 li_RL wy_L_promise.2.2) rfl ⟨wd_L_promise, by decide, by decide⟩ (by omega) (w_promise h.1 (by omega) (xs_r _) (xs_r _) (xs_r _) (xs_r _) (fun S1 hS1 => ?_))
  have io := i_promise (q := (w.2.2.2.2.2.2 (i + 1).toNat).toInt) (p := (w.2.2.2.2.2.2 (i + 2).toNat).toInt) (b := (w.2.2.2.2.2.2 (i + 3).toNat).toInt) (d := (w.2.2.2.2.2.2 (i + 4).toNat).toInt) h.1 h.2.1 (T := T) (by omega)
  have ht3 := t_promise (q := (w.2.2.2.2.2.2 (i + 1).toNat).toInt) (p := (w.2.2.2.2.2.2 (i + 2).toNat).toInt) (b := (w.2.2.2.2.2.2 (i + 3).toNat).toInt) (d := (w.2.2.2.2.2.2 (i + 4).toNat).toInt) (n := nn) (N := N) (C := S)
  have hR1 : Rel 0 nn N S (S1 31 0) := by rw [hS1.m io.2.2 (by decide) (by unfold sct; omega) (by omega) (by omega) (by omega) (by omega) (by omega) (by omega)]; exact h.2.2.1
  generalize ho : (o_promise (w.2.2.2.2.2.2 (i + 1).toNat).toInt (w.2.2.2.2.2.2 (i + 2).toNat).toInt (w.2.2.2.2.2.2 (i + 3).toNat).toInt (w.2.2.2.2.2.2 (i + 4).toNat).toInt nn N S) = o at hS1 io ht3
  refine xs_istore_5 eL_law_649 rfl ?_
  refine xs_aload_2 eL_law_651 ?_
  refine xs_aload_0 eL_law_652 ?_
  refine xs_iload_4 eL_law_653 ?_
  refine xa_iconst eL_law_655 ?_
  refine xa_iadd eL_law_656 ?_
  refine xa_sld eL_law_657 (by omega) hN ?_
  refine xs_aload_0 eL_law_658 ?_
  refine xs_iload_4 eL_law_659 ?_
  refine xa_iconst eL_law_661 ?_
  refine xa_iadd eL_law_662 ?_
  refine xa_sld eL_law_663 (by omega) hN ?_
  refine xs_aload_0 eL_law_664 ?_
  refine xs_iload_4 eL_law_665 ?_
  refine xa_iconst eL_law_667 ?_
  refine xa_iadd eL_law_668 ?_
  refine xa_sld eL_law_669 (by omega) hN ?_
  refine xs_aload_0 eL_law_670 ?_
  refine xs_iload_4 eL_law_671 ?_
  refine xa_iconst eL_law_673 ?_
  refine xa_iadd eL_law_674 ?_
  refine xa_sld eL_law_675 (by omega) hN ?_
  refine X_store (stM_self S1).symm ?_
  refine xbi_V40 (mi' := mX8_promise) (y := yX8_promise) eL_law_676 (xw_5 (xtb_in (i := 1277) (by decide +kernel) (by decide +kernel)) wy_X8_promise) rfl ⟨wd_X8_promise, by decide, by decide⟩ (by decide) (fun _ => rfl) rfl (Nat.le_of_ble_eq_true rfl) rfl (G_promise h.1 (by omega) hR1 (xs_r _) (xs_r _) (xs_r _) (xs_r _) (fun r S2 M2 hr hf ht hrel => ?_))
  rw [ho] at hr ht hrel
  refine xs_istore_6 eL_law_679 rfl ?_
  refine xs_aload_2 eL_law_681 ?_
  refine xbi_V00 (mi' := mX8_thrown) (y := yX8_thrown) eL_law_682 (xw_5 (xtb_in (i := 1188) (by decide +kernel) (by decide +kernel)) wy_X8_thrown) rfl ⟨wd_X8_thrown, by decide, by decide⟩ (by decide) (fun _ => rfl) rfl (Nat.le_of_ble_eq_true rfl) rfl (k_X8_thrown ?_)
  rw [show stM M2 S2 30 0 4 = (o.1 : Int) by rw [stM_k (by decide)]; exact ht]
  refine xs_iload_5 eL_law_685 ?_
  refine xa_icmp_eq (tgt := 692) eL_law_687 (by decide) (by omega) (by omega) (fun c687 => ?_) (fun c687 => ?_)
  · refine xs_iload_5 eL_law_692 ?_
    refine xa_if_ne (tgt := 709) eL_law_694 (by decide) (by omega) (fun c694 => ?_) (fun c694 => ?_)
    · refine xa_goto (tgt := 2358) eL_law_709 (by decide) ?_
      exact hk _ _ _ _ _ _ _ _ (h.step io hS1 hf hrel)
    · refine xs_aload_3 eL_law_697 ?_
      refine xa_iconst eL_law_698 ?_
      refine gar_42 eL_law_699 (by decide) (fun r9 => ?_)
      refine xs_iload_6 eL_law_700 ?_
      refine xa_i2lw eL_law_702 ?_
      refine xa_lcmp eL_law_703 r9 (wr_64 _) ?_
      refine xa_ifc_eq (tgt := 709) eL_law_704 (by decide) (fun c704 => ?_) (fun c704 => ?_)
      · refine xa_goto (tgt := 2358) eL_law_709 (by decide) ?_
        exact hk _ _ _ _ _ _ _ _ (h.step io hS1 hf hrel)
      · exact absurd (by show stM M2 S2 42 0 0 = wr r; rw [(show stM M2 S2 42 0 0 = wr o.2.1 by rw [stM_k (by decide), hf.1 42 0 (by omega)]; exact hS1.val (by omega)), hr (by omega)]) c704
  · exact absurd rfl c687
set_option maxHeartbeats 400000 in
theorem c_canAccept {w : xW} {TG : xT} {k n nn N c : Nat} {i T : Int} {l5 l6 l7 l8 : xV} {S : xS} (h : INV T nn N c S) (hT : 0 ≤ T ∧ T ≤ 790000) (hi : 0 ≤ i ∧ i + 4 < (w.2.2.2.2.2.1 : Int)) (hN : w.2.2.2.2.2.1 < 2147483648) (hk : ∀ (n' N' c' : Nat) (S' : xS) (l5 l6 l7 l8 : xV), INV (T + 1500) n' N' c' S' → X w mL_law TG k n 2358 [xp 52 0, xp 0 0, xp 30 0, xp 42 0, xi i, l5, l6, l7, l8] [] S') : X w mL_law TG (k + 1) (n + 6) 712 [xp 52 0, xp 0 0, xp 30 0, xp 42 0, xi i, l5, l6, l7, l8] [] S := by
  refine xs_aload_1 eL_law_712 ?_
  refine xs_aload_0 eL_law_713 ?_
  refine xs_iload_4 eL_law_714 ?_
  refine xa_iconst eL_law_716 ?_
  refine xa_iadd eL_law_717 ?_
  refine xa_sld eL_law_718 (by omega) hN ?_
  refine xs_aload_0 eL_law_719 ?_
  refine xs_iload_4 eL_law_720 ?_
  refine xa_iconst eL_law_722 ?_
  refine xa_iadd eL_law_723 ?_
  refine xa_sld eL_law_724 (by omega) hN ?_
  refine xs_aload_0 eL_law_725 ?_
  refine xs_iload_4 eL_law_726 ?_
  refine xa_iconst eL_law_728 ?_
  refine xa_iadd eL_law_729 ?_
  refine xa_sld eL_law_730 (by omega) hN ?_
  refine xs_aload_3 eL_law_731 ?_
  refine xbi_H5 (mi' := mL_canAccept) (y := yL_canAccept) (k1 := 1) (n1 := 6) eL_law_732 (zw_4 (xtb_in (i := 830) (by decide +kernel) (by decide +kernel)) wy_L_canAccept.1 li_RL wy_L_canAccept.2.2) rfl ⟨wd_L_canAccept, by decide, by decide⟩ (by omega) (w_canAccept h.1 (by omega) (xs_r _) (xs_r _) (xs_r _) (fun S1 hS1 => ?_))
  have io := i_canAccept (p := (w.2.2.2.2.2.2 (i + 1).toNat).toInt) (b := (w.2.2.2.2.2.2 (i + 2).toNat).toInt) (d := (w.2.2.2.2.2.2 (i + 3).toNat).toInt) h.1 h.2.1 (T := T) (by omega)
  have ht3 := t_canAccept (p := (w.2.2.2.2.2.2 (i + 1).toNat).toInt) (b := (w.2.2.2.2.2.2 (i + 2).toNat).toInt) (d := (w.2.2.2.2.2.2 (i + 3).toNat).toInt) (n := nn) (N := N) (C := S)
  have hR1 : Rel 0 nn N S (S1 31 0) := by rw [hS1.m io.2.2 (by decide) (by unfold sct; omega) (by omega) (by omega) (by omega) (by omega) (by omega) (by omega)]; exact h.2.2.1
  generalize ho : (o_canAccept (w.2.2.2.2.2.2 (i + 1).toNat).toInt (w.2.2.2.2.2.2 (i + 2).toNat).toInt (w.2.2.2.2.2.2 (i + 3).toNat).toInt nn N S) = o at hS1 io ht3
  refine xs_istore_5 eL_law_735 rfl ?_
  refine xs_aload_2 eL_law_737 ?_
  refine xs_aload_0 eL_law_738 ?_
  refine xs_iload_4 eL_law_739 ?_
  refine xa_iconst eL_law_741 ?_
  refine xa_iadd eL_law_742 ?_
  refine xa_sld eL_law_743 (by omega) hN ?_
  refine xs_aload_0 eL_law_744 ?_
  refine xs_iload_4 eL_law_745 ?_
  refine xa_iconst eL_law_747 ?_
  refine xa_iadd eL_law_748 ?_
  refine xa_sld eL_law_749 (by omega) hN ?_
  refine xs_aload_0 eL_law_750 ?_
  refine xs_iload_4 eL_law_751 ?_
  refine xa_iconst eL_law_753 ?_
  refine xa_iadd eL_law_754 ?_
  refine xa_sld eL_law_755 (by omega) hN ?_
  refine X_store (stM_self S1).symm ?_
  refine xbi_V30 (mi' := mX8_canAccept) (y := yX8_canAccept) eL_law_756 (xw_5 (xtb_in (i := 1326) (by decide +kernel) (by decide +kernel)) wy_X8_canAccept) rfl ⟨wd_X8_canAccept, by decide, by decide⟩ (by decide) (fun _ => rfl) rfl (Nat.le_of_ble_eq_true rfl) rfl (G_canAccept h.1 (by omega) hR1 (xs_r _) (xs_r _) (xs_r _) (fun r S2 M2 hr hf ht hrel => ?_))
  rw [ho] at hr ht hrel
  refine xs_istore_6 eL_law_759 rfl ?_
  refine xs_aload_2 eL_law_761 ?_
  refine xbi_V00 (mi' := mX8_thrown) (y := yX8_thrown) eL_law_762 (xw_5 (xtb_in (i := 1188) (by decide +kernel) (by decide +kernel)) wy_X8_thrown) rfl ⟨wd_X8_thrown, by decide, by decide⟩ (by decide) (fun _ => rfl) rfl (Nat.le_of_ble_eq_true rfl) rfl (k_X8_thrown ?_)
  rw [show stM M2 S2 30 0 4 = (o.1 : Int) by rw [stM_k (by decide)]; exact ht]
  have hz := z_canAccept (p := (w.2.2.2.2.2.2 (i + 1).toNat).toInt) (b := (w.2.2.2.2.2.2 (i + 2).toNat).toInt) (d := (w.2.2.2.2.2.2 (i + 3).toNat).toInt) (n := nn) (N := N) (C := S)
  rw [ho] at hz
  have hr2 : o.1 = 0 → r = 0 ∨ r = 1 := fun e => by rw [hr e]; exact hz
  refine xs_iload_5 eL_law_765 ?_
  refine xa_icmp_eq (tgt := 772) eL_law_767 (by decide) (by omega) (by omega) (fun c767 => ?_) (fun c767 => ?_)
  · refine xs_iload_5 eL_law_772 ?_
    refine xa_if_ne (tgt := 796) eL_law_774 (by decide) (by omega) (fun c774 => ?_) (fun c774 => ?_)
    · refine xa_goto (tgt := 2358) eL_law_796 (by decide) ?_
      exact hk _ _ _ _ _ _ _ _ (h.step io hS1 hf hrel)
    · refine xs_aload_3 eL_law_777 ?_
      refine xa_iconst eL_law_778 ?_
      refine gar_42 eL_law_779 (by decide) (fun r9 => ?_)
      refine xs_iload_6 eL_law_780 ?_
      refine xa_if_eq (tgt := 789) eL_law_782 (by decide) (by have := hr2 (by omega); omega) (fun c782 => ?_) (fun c782 => ?_)
      · refine xa_lconst0 eL_law_789 ?_
        refine xa_lcmp eL_law_790 r9 (by decide) ?_
        refine xa_ifc_eq (tgt := 796) eL_law_791 (by decide) (fun c791 => ?_) (fun c791 => ?_)
        · refine xa_goto (tgt := 2358) eL_law_796 (by decide) ?_
          exact hk _ _ _ _ _ _ _ _ (h.step io hS1 hf hrel)
        · exact absurd (by show stM M2 S2 42 0 0 = 0; rw [(show stM M2 S2 42 0 0 = wr o.2.1 by rw [stM_k (by decide), hf.1 42 0 (by omega)]; exact hS1.val (by omega)), ← hr (by omega)]; have := wr_id (a := r) (by omega); omega) c791
      · refine xa_lconst1 eL_law_785 ?_
        refine xa_goto (tgt := 790) eL_law_786 (by decide) ?_
        refine xa_lcmp eL_law_790 r9 (by decide) ?_
        refine xa_ifc_eq (tgt := 796) eL_law_791 (by decide) (fun c791 => ?_) (fun c791 => ?_)
        · refine xa_goto (tgt := 2358) eL_law_796 (by decide) ?_
          exact hk _ _ _ _ _ _ _ _ (h.step io hS1 hf hrel)
        · exact absurd (by show stM M2 S2 42 0 0 = 1; rw [(show stM M2 S2 42 0 0 = wr o.2.1 by rw [stM_k (by decide), hf.1 42 0 (by omega)]; exact hS1.val (by omega)), ← hr (by omega)]; have := wr_id (a := r) (by omega); omega) c791
  · exact absurd rfl c767
set_option maxHeartbeats 400000 in
theorem c_greatestBudget {w : xW} {TG : xT} {k n nn N c : Nat} {i T : Int} {l5 l6 l7 l8 : xV} {S : xS} (h : INV T nn N c S) (hT : 0 ≤ T ∧ T ≤ 790000) (hi : 0 ≤ i ∧ i + 4 < (w.2.2.2.2.2.1 : Int)) (hN : w.2.2.2.2.2.1 < 2147483648) (hk : ∀ (n' N' c' : Nat) (S' : xS) (l5 l6 l7 l8 : xV), INV (T + 1500) n' N' c' S' → X w mL_law TG k n 2358 [xp 52 0, xp 0 0, xp 30 0, xp 42 0, xi i, l5, l6, l7, l8] [] S') : X w mL_law TG (k + 1) (n + 6) 799 [xp 52 0, xp 0 0, xp 30 0, xp 42 0, xi i, l5, l6, l7, l8] [] S := by
  refine xs_aload_1 eL_law_799 ?_
  refine xs_aload_0 eL_law_800 ?_
  refine xs_iload_4 eL_law_801 ?_
  refine xa_iconst eL_law_803 ?_
  refine xa_iadd eL_law_804 ?_
  refine xa_sld eL_law_805 (by omega) hN ?_
  refine xs_aload_0 eL_law_806 ?_
  refine xs_iload_4 eL_law_807 ?_
  refine xa_iconst eL_law_809 ?_
  refine xa_iadd eL_law_810 ?_
  refine xa_sld eL_law_811 (by omega) hN ?_
  refine xs_aload_3 eL_law_812 ?_
  refine xbi_H4 (mi' := mL_greatestBudget) (y := yL_greatestBudget) (k1 := 1) (n1 := 6) eL_law_813 (zw_4 (xtb_in (i := 837) (by decide +kernel) (by decide +kernel)) wy_L_greatestBudget.1 li_RL wy_L_greatestBudget.2.2) rfl ⟨wd_L_greatestBudget, by decide, by decide⟩ (by omega) (w_greatestBudget h.1 (by omega) (xs_r _) (xs_r _) (fun S1 hS1 => ?_))
  have io := i_greatestBudget (p := (w.2.2.2.2.2.2 (i + 1).toNat).toInt) (d := (w.2.2.2.2.2.2 (i + 2).toNat).toInt) h.1 h.2.1 (T := T) (by omega)
  have ht3 := t_greatestBudget (p := (w.2.2.2.2.2.2 (i + 1).toNat).toInt) (d := (w.2.2.2.2.2.2 (i + 2).toNat).toInt) (n := nn) (N := N) (C := S)
  have hR1 : Rel 0 nn N S (S1 31 0) := by rw [hS1.m io.2.2 (by decide) (by unfold sct; omega) (by omega) (by omega) (by omega) (by omega) (by omega) (by omega)]; exact h.2.2.1
  generalize ho : (o_greatestBudget (w.2.2.2.2.2.2 (i + 1).toNat).toInt (w.2.2.2.2.2.2 (i + 2).toNat).toInt nn N S) = o at hS1 io ht3
  refine xs_istore_5 eL_law_816 rfl ?_
  refine xs_aload_2 eL_law_818 ?_
  refine xs_aload_0 eL_law_819 ?_
  refine xs_iload_4 eL_law_820 ?_
  refine xa_iconst eL_law_822 ?_
  refine xa_iadd eL_law_823 ?_
  refine xa_sld eL_law_824 (by omega) hN ?_
  refine xs_aload_0 eL_law_825 ?_
  refine xs_iload_4 eL_law_826 ?_
  refine xa_iconst eL_law_828 ?_
  refine xa_iadd eL_law_829 ?_
  refine xa_sld eL_law_830 (by omega) hN ?_
  refine X_store (stM_self S1).symm ?_
  refine xbi_V20 (mi' := mX8_greatestBudget) (y := yX8_greatestBudget) eL_law_831 (xw_5 (xtb_in (i := 1330) (by decide +kernel) (by decide +kernel)) wy_X8_greatestBudget) rfl ⟨wd_X8_greatestBudget, by decide, by decide⟩ (by decide) (fun _ => rfl) rfl (Nat.le_of_ble_eq_true rfl) rfl (G_greatestBudget h.1 (by omega) hR1 (xs_r _) (xs_r _) (fun r S2 M2 hr hf ht hrel => ?_))
  rw [ho] at hr ht hrel
  refine xs_istore_6 eL_law_834 rfl ?_
  refine xs_aload_2 eL_law_836 ?_
  refine xbi_V00 (mi' := mX8_thrown) (y := yX8_thrown) eL_law_837 (xw_5 (xtb_in (i := 1188) (by decide +kernel) (by decide +kernel)) wy_X8_thrown) rfl ⟨wd_X8_thrown, by decide, by decide⟩ (by decide) (fun _ => rfl) rfl (Nat.le_of_ble_eq_true rfl) rfl (k_X8_thrown ?_)
  rw [show stM M2 S2 30 0 4 = (o.1 : Int) by rw [stM_k (by decide)]; exact ht]
  refine xs_iload_5 eL_law_840 ?_
  refine xa_icmp_eq (tgt := 847) eL_law_842 (by decide) (by omega) (by omega) (fun c842 => ?_) (fun c842 => ?_)
  · refine xs_iload_5 eL_law_847 ?_
    refine xa_if_ne (tgt := 864) eL_law_849 (by decide) (by omega) (fun c849 => ?_) (fun c849 => ?_)
    · refine xa_goto (tgt := 2358) eL_law_864 (by decide) ?_
      exact hk _ _ _ _ _ _ _ _ (h.step io hS1 hf hrel)
    · refine xs_aload_3 eL_law_852 ?_
      refine xa_iconst eL_law_853 ?_
      refine gar_42 eL_law_854 (by decide) (fun r9 => ?_)
      refine xs_iload_6 eL_law_855 ?_
      refine xa_i2lw eL_law_857 ?_
      refine xa_lcmp eL_law_858 r9 (wr_64 _) ?_
      refine xa_ifc_eq (tgt := 864) eL_law_859 (by decide) (fun c859 => ?_) (fun c859 => ?_)
      · refine xa_goto (tgt := 2358) eL_law_864 (by decide) ?_
        exact hk _ _ _ _ _ _ _ _ (h.step io hS1 hf hrel)
      · exact absurd (by show stM M2 S2 42 0 0 = wr r; rw [(show stM M2 S2 42 0 0 = wr o.2.1 by rw [stM_k (by decide), hf.1 42 0 (by omega)]; exact hS1.val (by omega)), hr (by omega)]) c859
  · exact absurd rfl c842
set_option maxHeartbeats 400000 in
theorem c_waitFor {w : xW} {TG : xT} {k n nn N c : Nat} {i T : Int} {l5 l6 l7 l8 : xV} {S : xS} (h : INV T nn N c S) (hT : 0 ≤ T ∧ T ≤ 790000) (hi : 0 ≤ i ∧ i + 4 < (w.2.2.2.2.2.1 : Int)) (hN : w.2.2.2.2.2.1 < 2147483648) (hk : ∀ (n' N' c' : Nat) (S' : xS) (l5 l6 l7 l8 : xV), INV (T + 1500) n' N' c' S' → X w mL_law TG k n 2358 [xp 52 0, xp 0 0, xp 30 0, xp 42 0, xi i, l5, l6, l7, l8] [] S') : X w mL_law TG (k + 1) (n + 6) 867 [xp 52 0, xp 0 0, xp 30 0, xp 42 0, xi i, l5, l6, l7, l8] [] S := by
  refine xs_aload_1 eL_law_867 ?_
  refine xs_aload_0 eL_law_868 ?_
  refine xs_iload_4 eL_law_869 ?_
  refine xa_iconst eL_law_871 ?_
  refine xa_iadd eL_law_872 ?_
  refine xa_sld eL_law_873 (by omega) hN ?_
  refine xs_aload_0 eL_law_874 ?_
  refine xs_iload_4 eL_law_875 ?_
  refine xa_iconst eL_law_877 ?_
  refine xa_iadd eL_law_878 ?_
  refine xa_sld eL_law_879 (by omega) hN ?_
  refine xs_aload_0 eL_law_880 ?_
  refine xs_iload_4 eL_law_881 ?_
  refine xa_iconst eL_law_883 ?_
  refine xa_iadd eL_law_884 ?_
  refine xa_sld eL_law_885 (by omega) hN ?_
  refine xs_aload_3 eL_law_886 ?_
  refine xbi_H5 (mi' := mL_waitFor) (y := yL_waitFor) (k1 := 1) (n1 := 6) eL_law_887 (zw_4 (xtb_in (i := 844) (by decide +kernel) (by decide +kernel)) wy_L_waitFor.1 li_RL wy_L_waitFor.2.2) rfl ⟨wd_L_waitFor, by decide, by decide⟩ (by omega) (w_waitFor h.1 (by omega) (xs_r _) (xs_r _) (xs_r _) (fun S1 hS1 => ?_))
  have io := i_waitFor (p := (w.2.2.2.2.2.2 (i + 1).toNat).toInt) (b := (w.2.2.2.2.2.2 (i + 2).toNat).toInt) (d := (w.2.2.2.2.2.2 (i + 3).toNat).toInt) h.1 h.2.1 (T := T) (by omega)
  have ht3 := t_waitFor (p := (w.2.2.2.2.2.2 (i + 1).toNat).toInt) (b := (w.2.2.2.2.2.2 (i + 2).toNat).toInt) (d := (w.2.2.2.2.2.2 (i + 3).toNat).toInt) (n := nn) (N := N) (C := S)
  have hR1 : Rel 0 nn N S (S1 31 0) := by rw [hS1.m io.2.2 (by decide) (by unfold sct; omega) (by omega) (by omega) (by omega) (by omega) (by omega) (by omega)]; exact h.2.2.1
  generalize ho : (o_waitFor (w.2.2.2.2.2.2 (i + 1).toNat).toInt (w.2.2.2.2.2.2 (i + 2).toNat).toInt (w.2.2.2.2.2.2 (i + 3).toNat).toInt nn N S) = o at hS1 io ht3
  refine xs_istore_5 eL_law_890 rfl ?_
  refine xs_aload_2 eL_law_892 ?_
  refine xs_aload_0 eL_law_893 ?_
  refine xs_iload_4 eL_law_894 ?_
  refine xa_iconst eL_law_896 ?_
  refine xa_iadd eL_law_897 ?_
  refine xa_sld eL_law_898 (by omega) hN ?_
  refine xs_aload_0 eL_law_899 ?_
  refine xs_iload_4 eL_law_900 ?_
  refine xa_iconst eL_law_902 ?_
  refine xa_iadd eL_law_903 ?_
  refine xa_sld eL_law_904 (by omega) hN ?_
  refine xs_aload_0 eL_law_905 ?_
  refine xs_iload_4 eL_law_906 ?_
  refine xa_iconst eL_law_908 ?_
  refine xa_iadd eL_law_909 ?_
  refine xa_sld eL_law_910 (by omega) hN ?_
  refine X_store (stM_self S1).symm ?_
  refine xbi_V30 (mi' := mX8_waitFor) (y := yX8_waitFor) eL_law_911 (xw_5 (xtb_in (i := 1334) (by decide +kernel) (by decide +kernel)) wy_X8_waitFor) rfl ⟨wd_X8_waitFor, by decide, by decide⟩ (by decide) (fun _ => rfl) rfl (Nat.le_of_ble_eq_true rfl) rfl (G_waitFor h.1 (by omega) hR1 (xs_r _) (xs_r _) (xs_r _) (fun r S2 M2 hr hf ht hrel => ?_))
  rw [ho] at hr ht hrel
  refine xs_istore_6 eL_law_914 rfl ?_
  refine xs_aload_2 eL_law_916 ?_
  refine xbi_V00 (mi' := mX8_thrown) (y := yX8_thrown) eL_law_917 (xw_5 (xtb_in (i := 1188) (by decide +kernel) (by decide +kernel)) wy_X8_thrown) rfl ⟨wd_X8_thrown, by decide, by decide⟩ (by decide) (fun _ => rfl) rfl (Nat.le_of_ble_eq_true rfl) rfl (k_X8_thrown ?_)
  rw [show stM M2 S2 30 0 4 = (o.1 : Int) by rw [stM_k (by decide)]; exact ht]
  refine xs_iload_5 eL_law_920 ?_
  refine xa_icmp_eq (tgt := 927) eL_law_922 (by decide) (by omega) (by omega) (fun c922 => ?_) (fun c922 => ?_)
  · refine xs_iload_5 eL_law_927 ?_
    refine xa_if_ne (tgt := 944) eL_law_929 (by decide) (by omega) (fun c929 => ?_) (fun c929 => ?_)
    · refine xa_goto (tgt := 2358) eL_law_944 (by decide) ?_
      exact hk _ _ _ _ _ _ _ _ (h.step io hS1 hf hrel)
    · refine xs_aload_3 eL_law_932 ?_
      refine xa_iconst eL_law_933 ?_
      refine gar_42 eL_law_934 (by decide) (fun r9 => ?_)
      refine xs_iload_6 eL_law_935 ?_
      refine xa_i2lw eL_law_937 ?_
      refine xa_lcmp eL_law_938 r9 (wr_64 _) ?_
      refine xa_ifc_eq (tgt := 944) eL_law_939 (by decide) (fun c939 => ?_) (fun c939 => ?_)
      · refine xa_goto (tgt := 2358) eL_law_944 (by decide) ?_
        exact hk _ _ _ _ _ _ _ _ (h.step io hS1 hf hrel)
      · exact absurd (by show stM M2 S2 42 0 0 = wr r; rw [(show stM M2 S2 42 0 0 = wr o.2.1 by rw [stM_k (by decide), hf.1 42 0 (by omega)]; exact hS1.val (by omega)), hr (by omega)]) c939
  · exact absurd rfl c922
set_option maxHeartbeats 400000 in
theorem c_end {w : xW} {TG : xT} {k n nn N c : Nat} {i T : Int} {l5 l6 l7 l8 : xV} {S : xS} (h : INV T nn N c S) (hT : 0 ≤ T ∧ T ≤ 790000) (hi : 0 ≤ i ∧ i + 4 < (w.2.2.2.2.2.1 : Int)) (hN : w.2.2.2.2.2.1 < 2147483648) (hk : ∀ (n' N' c' : Nat) (S' : xS) (l5 l6 l7 l8 : xV), INV (T + 1500) n' N' c' S' → X w mL_law TG k n 2358 [xp 52 0, xp 0 0, xp 30 0, xp 42 0, xi i, l5, l6, l7, l8] [] S') : X w mL_law TG (k + 1) (n + 6) 947 [xp 52 0, xp 0 0, xp 30 0, xp 42 0, xi i, l5, l6, l7, l8] [] S := by
  refine xs_aload_1 eL_law_947 ?_
  refine xs_aload_0 eL_law_948 ?_
  refine xs_iload_4 eL_law_949 ?_
  refine xa_iconst eL_law_951 ?_
  refine xa_iadd eL_law_952 ?_
  refine xa_sld eL_law_953 (by omega) hN ?_
  refine xs_aload_3 eL_law_954 ?_
  refine xbi_H3 (mi' := mL_end) (y := yL_end) (k1 := 1) (n1 := 6) eL_law_955 (zw_4 (xtb_in (i := 855) (by decide +kernel) (by decide +kernel)) wy_L_end.1 li_RL wy_L_end.2.2) rfl ⟨wd_L_end, by decide, by decide⟩ (by omega) (w_end h.1 (by omega) (xs_r _) (fun S1 hS1 => ?_))
  have io := i_end (j := (w.2.2.2.2.2.2 (i + 1).toNat).toInt) h.1 h.2.1 (T := T) (by omega)
  have ht3 := t_end (j := (w.2.2.2.2.2.2 (i + 1).toNat).toInt) (n := nn) (N := N) (C := S)
  have hR1 : Rel 0 nn N S (S1 31 0) := by rw [hS1.m io.2.2 (by decide) (by unfold sct; omega) (by omega) (by omega) (by omega) (by omega) (by omega) (by omega)]; exact h.2.2.1
  generalize ho : (o_end (w.2.2.2.2.2.2 (i + 1).toNat).toInt nn N S) = o at hS1 io ht3
  refine xs_istore_5 eL_law_958 rfl ?_
  refine xs_aload_2 eL_law_960 ?_
  refine xs_aload_0 eL_law_961 ?_
  refine xs_iload_4 eL_law_962 ?_
  refine xa_iconst eL_law_964 ?_
  refine xa_iadd eL_law_965 ?_
  refine xa_sld eL_law_966 (by omega) hN ?_
  refine X_store (stM_self S1).symm ?_
  refine xbi_V10 (mi' := mX8_end) (y := yX8_end) eL_law_967 (xw_5 (xtb_in (i := 1385) (by decide +kernel) (by decide +kernel)) wy_X8_end) rfl ⟨wd_X8_end, by decide, by decide⟩ (by decide) (fun _ => rfl) rfl (Nat.le_of_ble_eq_true rfl) rfl (G_end h.1 (by omega) hR1 (xs_r _) (fun r S2 M2 hr hf ht hrel => ?_))
  rw [ho] at hr ht hrel
  refine xs_istore_6 eL_law_970 rfl ?_
  refine xs_aload_2 eL_law_972 ?_
  refine xbi_V00 (mi' := mX8_thrown) (y := yX8_thrown) eL_law_973 (xw_5 (xtb_in (i := 1188) (by decide +kernel) (by decide +kernel)) wy_X8_thrown) rfl ⟨wd_X8_thrown, by decide, by decide⟩ (by decide) (fun _ => rfl) rfl (Nat.le_of_ble_eq_true rfl) rfl (k_X8_thrown ?_)
  rw [show stM M2 S2 30 0 4 = (o.1 : Int) by rw [stM_k (by decide)]; exact ht]
  refine xs_iload_5 eL_law_976 ?_
  refine xa_icmp_eq (tgt := 983) eL_law_978 (by decide) (by omega) (by omega) (fun c978 => ?_) (fun c978 => ?_)
  · refine xs_iload_5 eL_law_983 ?_
    refine xa_if_ne (tgt := 1000) eL_law_985 (by decide) (by omega) (fun c985 => ?_) (fun c985 => ?_)
    · refine xa_goto (tgt := 2358) eL_law_1000 (by decide) ?_
      exact hk _ _ _ _ _ _ _ _ (h.step io hS1 hf hrel)
    · refine xs_aload_3 eL_law_988 ?_
      refine xa_iconst eL_law_989 ?_
      refine gar_42 eL_law_990 (by decide) (fun r9 => ?_)
      refine xs_iload_6 eL_law_991 ?_
      refine xa_i2lw eL_law_993 ?_
      refine xa_lcmp eL_law_994 r9 (wr_64 _) ?_
      refine xa_ifc_eq (tgt := 1000) eL_law_995 (by decide) (fun c995 => ?_) (fun c995 => ?_)
      · refine xa_goto (tgt := 2358) eL_law_1000 (by decide) ?_
        exact hk _ _ _ _ _ _ _ _ (h.step io hS1 hf hrel)
      · exact absurd (by show stM M2 S2 42 0 0 = wr r; rw [(show stM M2 S2 42 0 0 = wr o.2.1 by rw [stM_k (by decide), hf.1 42 0 (by omega)]; exact hS1.val (by omega)), hr (by omega)]) c995
  · exact absurd rfl c978
set_option maxHeartbeats 400000 in
theorem c_split {w : xW} {TG : xT} {k n nn N c : Nat} {i T : Int} {l5 l6 l7 l8 : xV} {S : xS} (h : INV T nn N c S) (hT : 0 ≤ T ∧ T ≤ 790000) (hi : 0 ≤ i ∧ i + 4 < (w.2.2.2.2.2.1 : Int)) (hN : w.2.2.2.2.2.1 < 2147483648) (hk : ∀ (n' N' c' : Nat) (S' : xS) (l5 l6 l7 l8 : xV), INV (T + 1500) n' N' c' S' → X w mL_law TG k n 2358 [xp 52 0, xp 0 0, xp 30 0, xp 42 0, xi i, l5, l6, l7, l8] [] S') : X w mL_law TG (k + 1) (n + 6) 1003 [xp 52 0, xp 0 0, xp 30 0, xp 42 0, xi i, l5, l6, l7, l8] [] S := by
  refine xs_aload_1 eL_law_1003 ?_
  refine xs_aload_0 eL_law_1004 ?_
  refine xs_iload_4 eL_law_1005 ?_
  refine xa_iconst eL_law_1007 ?_
  refine xa_iadd eL_law_1008 ?_
  refine xa_sld eL_law_1009 (by omega) hN ?_
  refine xs_aload_0 eL_law_1010 ?_
  refine xs_iload_4 eL_law_1011 ?_
  refine xa_iconst eL_law_1013 ?_
  refine xa_iadd eL_law_1014 ?_
  refine xa_sld eL_law_1015 (by omega) hN ?_
  refine xs_aload_3 eL_law_1016 ?_
  refine xbi_H4 (mi' := mL_split) (y := yL_split) (k1 := 1) (n1 := 6) eL_law_1017 (zw_4 (xtb_in (i := 867) (by decide +kernel) (by decide +kernel)) wy_L_split.1 li_RL wy_L_split.2.2) rfl ⟨wd_L_split, by decide, by decide⟩ (by omega) (w_split h.1 (by omega) (xs_r _) (xs_r _) (fun S1 hS1 => ?_))
  have io := i_split (j := (w.2.2.2.2.2.2 (i + 1).toNat).toInt) (a := (w.2.2.2.2.2.2 (i + 2).toNat).toInt) h.1 h.2.1 (T := T) (by omega)
  have ht3 := t_split (j := (w.2.2.2.2.2.2 (i + 1).toNat).toInt) (a := (w.2.2.2.2.2.2 (i + 2).toNat).toInt) (n := nn) (N := N) (C := S)
  have hR1 : Rel 0 nn N S (S1 31 0) := by rw [hS1.m io.2.2 (by decide) (by unfold sct; omega) (by omega) (by omega) (by omega) (by omega) (by omega) (by omega)]; exact h.2.2.1
  generalize ho : (o_split (w.2.2.2.2.2.2 (i + 1).toNat).toInt (w.2.2.2.2.2.2 (i + 2).toNat).toInt nn N S) = o at hS1 io ht3
  refine xs_istore_5 eL_law_1020 rfl ?_
  refine xs_aload_2 eL_law_1022 ?_
  refine xs_aload_0 eL_law_1023 ?_
  refine xs_iload_4 eL_law_1024 ?_
  refine xa_iconst eL_law_1026 ?_
  refine xa_iadd eL_law_1027 ?_
  refine xa_sld eL_law_1028 (by omega) hN ?_
  refine xs_aload_0 eL_law_1029 ?_
  refine xs_iload_4 eL_law_1030 ?_
  refine xa_iconst eL_law_1032 ?_
  refine xa_iadd eL_law_1033 ?_
  refine xa_sld eL_law_1034 (by omega) hN ?_
  refine X_store (stM_self S1).symm ?_
  refine xbi_V20 (mi' := mX8_split) (y := yX8_split) eL_law_1035 (xw_5 (xtb_in (i := 1393) (by decide +kernel) (by decide +kernel)) wy_X8_split) rfl ⟨wd_X8_split, by decide, by decide⟩ (by decide) (fun _ => rfl) rfl (Nat.le_of_ble_eq_true rfl) rfl (G_split h.1 (by omega) hR1 (xs_r _) (xs_r _) (fun r S2 M2 hr hf ht hrel => ?_))
  rw [ho] at hr ht hrel
  refine xs_istore_6 eL_law_1038 rfl ?_
  refine xs_aload_2 eL_law_1040 ?_
  refine xbi_V00 (mi' := mX8_thrown) (y := yX8_thrown) eL_law_1041 (xw_5 (xtb_in (i := 1188) (by decide +kernel) (by decide +kernel)) wy_X8_thrown) rfl ⟨wd_X8_thrown, by decide, by decide⟩ (by decide) (fun _ => rfl) rfl (Nat.le_of_ble_eq_true rfl) rfl (k_X8_thrown ?_)
  rw [show stM M2 S2 30 0 4 = (o.1 : Int) by rw [stM_k (by decide)]; exact ht]
  refine xs_iload_5 eL_law_1044 ?_
  refine xa_icmp_eq (tgt := 1051) eL_law_1046 (by decide) (by omega) (by omega) (fun c1046 => ?_) (fun c1046 => ?_)
  · refine xs_iload_5 eL_law_1051 ?_
    refine xa_if_ne (tgt := 1068) eL_law_1053 (by decide) (by omega) (fun c1053 => ?_) (fun c1053 => ?_)
    · refine xa_goto (tgt := 2358) eL_law_1068 (by decide) ?_
      exact hk _ _ _ _ _ _ _ _ (h.step io hS1 hf hrel)
    · refine xs_aload_3 eL_law_1056 ?_
      refine xa_iconst eL_law_1057 ?_
      refine gar_42 eL_law_1058 (by decide) (fun r9 => ?_)
      refine xs_iload_6 eL_law_1059 ?_
      refine xa_i2lw eL_law_1061 ?_
      refine xa_lcmp eL_law_1062 r9 (wr_64 _) ?_
      refine xa_ifc_eq (tgt := 1068) eL_law_1063 (by decide) (fun c1063 => ?_) (fun c1063 => ?_)
      · refine xa_goto (tgt := 2358) eL_law_1068 (by decide) ?_
        exact hk _ _ _ _ _ _ _ _ (h.step io hS1 hf hrel)
      · exact absurd (by show stM M2 S2 42 0 0 = wr r; rw [(show stM M2 S2 42 0 0 = wr o.2.1 by rw [stM_k (by decide), hf.1 42 0 (by omega)]; exact hS1.val (by omega)), hr (by omega)]) c1063
  · exact absurd rfl c1046
set_option maxHeartbeats 400000 in
theorem c_told {w : xW} {TG : xT} {k n nn N c : Nat} {i T : Int} {l5 l6 l7 l8 : xV} {S : xS} (h : INV T nn N c S) (hT : 0 ≤ T ∧ T ≤ 790000) (hi : 0 ≤ i ∧ i + 4 < (w.2.2.2.2.2.1 : Int)) (hN : w.2.2.2.2.2.1 < 2147483648) (hk : ∀ (n' N' c' : Nat) (S' : xS) (l5 l6 l7 l8 : xV), INV (T + 1500) n' N' c' S' → X w mL_law TG k n 2358 [xp 52 0, xp 0 0, xp 30 0, xp 42 0, xi i, l5, l6, l7, l8] [] S') : X w mL_law TG (k + 1) (n + 6) 1071 [xp 52 0, xp 0 0, xp 30 0, xp 42 0, xi i, l5, l6, l7, l8] [] S := by
  refine xs_aload_1 eL_law_1071 ?_
  refine xs_aload_0 eL_law_1072 ?_
  refine xs_iload_4 eL_law_1073 ?_
  refine xa_iconst eL_law_1075 ?_
  refine xa_iadd eL_law_1076 ?_
  refine xa_sld eL_law_1077 (by omega) hN ?_
  refine xs_aload_0 eL_law_1078 ?_
  refine xs_iload_4 eL_law_1079 ?_
  refine xa_iconst eL_law_1081 ?_
  refine xa_iadd eL_law_1082 ?_
  refine xa_sld eL_law_1083 (by omega) hN ?_
  refine xs_aload_3 eL_law_1084 ?_
  refine xbi_H4 (mi' := mL_told) (y := yL_told) (k1 := 1) (n1 := 6) eL_law_1085 (zw_4 (xtb_in (i := 886) (by decide +kernel) (by decide +kernel)) wy_L_told.1 li_RL wy_L_told.2.2) rfl ⟨wd_L_told, by decide, by decide⟩ (by omega) (w_told h.1 (by omega) (xs_r _) (xs_r _) (fun S1 hS1 => ?_))
  have io := i_told (j := (w.2.2.2.2.2.2 (i + 1).toNat).toInt) (a := (w.2.2.2.2.2.2 (i + 2).toNat).toInt) h.1 h.2.1 (T := T) (by omega)
  have ht3 := t_told (j := (w.2.2.2.2.2.2 (i + 1).toNat).toInt) (a := (w.2.2.2.2.2.2 (i + 2).toNat).toInt) (n := nn) (N := N) (C := S)
  have hR1 : Rel 0 nn N S (S1 31 0) := by rw [hS1.m io.2.2 (by decide) (by unfold sct; omega) (by omega) (by omega) (by omega) (by omega) (by omega) (by omega)]; exact h.2.2.1
  generalize ho : (o_told (w.2.2.2.2.2.2 (i + 1).toNat).toInt (w.2.2.2.2.2.2 (i + 2).toNat).toInt nn N S) = o at hS1 io ht3
  refine xs_istore_5 eL_law_1088 rfl ?_
  refine xs_aload_2 eL_law_1090 ?_
  refine xs_aload_0 eL_law_1091 ?_
  refine xs_iload_4 eL_law_1092 ?_
  refine xa_iconst eL_law_1094 ?_
  refine xa_iadd eL_law_1095 ?_
  refine xa_sld eL_law_1096 (by omega) hN ?_
  refine xs_aload_0 eL_law_1097 ?_
  refine xs_iload_4 eL_law_1098 ?_
  refine xa_iconst eL_law_1100 ?_
  refine xa_iadd eL_law_1101 ?_
  refine xa_sld eL_law_1102 (by omega) hN ?_
  refine X_store (stM_self S1).symm ?_
  refine xbi_V20 (mi' := mX8_told) (y := yX8_told) eL_law_1103 (xw_5 (xtb_in (i := 1401) (by decide +kernel) (by decide +kernel)) wy_X8_told) rfl ⟨wd_X8_told, by decide, by decide⟩ (by decide) (fun _ => rfl) rfl (Nat.le_of_ble_eq_true rfl) rfl (G_told h.1 (by omega) hR1 (xs_r _) (xs_r _) (fun r S2 M2 hr hf ht hrel => ?_))
  rw [ho] at hr ht hrel
  refine xs_istore_6 eL_law_1106 rfl ?_
  refine xs_aload_2 eL_law_1108 ?_
  refine xbi_V00 (mi' := mX8_thrown) (y := yX8_thrown) eL_law_1109 (xw_5 (xtb_in (i := 1188) (by decide +kernel) (by decide +kernel)) wy_X8_thrown) rfl ⟨wd_X8_thrown, by decide, by decide⟩ (by decide) (fun _ => rfl) rfl (Nat.le_of_ble_eq_true rfl) rfl (k_X8_thrown ?_)
  rw [show stM M2 S2 30 0 4 = (o.1 : Int) by rw [stM_k (by decide)]; exact ht]
  refine xs_iload_5 eL_law_1112 ?_
  refine xa_icmp_eq (tgt := 1119) eL_law_1114 (by decide) (by omega) (by omega) (fun c1114 => ?_) (fun c1114 => ?_)
  · refine xs_iload_5 eL_law_1119 ?_
    refine xa_if_ne (tgt := 1136) eL_law_1121 (by decide) (by omega) (fun c1121 => ?_) (fun c1121 => ?_)
    · refine xa_goto (tgt := 2358) eL_law_1136 (by decide) ?_
      exact hk _ _ _ _ _ _ _ _ (h.step io hS1 hf hrel)
    · refine xs_aload_3 eL_law_1124 ?_
      refine xa_iconst eL_law_1125 ?_
      refine gar_42 eL_law_1126 (by decide) (fun r9 => ?_)
      refine xs_iload_6 eL_law_1127 ?_
      refine xa_i2lw eL_law_1129 ?_
      refine xa_lcmp eL_law_1130 r9 (wr_64 _) ?_
      refine xa_ifc_eq (tgt := 1136) eL_law_1131 (by decide) (fun c1131 => ?_) (fun c1131 => ?_)
      · refine xa_goto (tgt := 2358) eL_law_1136 (by decide) ?_
        exact hk _ _ _ _ _ _ _ _ (h.step io hS1 hf hrel)
      · exact absurd (by show stM M2 S2 42 0 0 = wr r; rw [(show stM M2 S2 42 0 0 = wr o.2.1 by rw [stM_k (by decide), hf.1 42 0 (by omega)]; exact hS1.val (by omega)), hr (by omega)]) c1131
  · exact absurd rfl c1114
set_option maxHeartbeats 400000 in
theorem c_demand {w : xW} {TG : xT} {k n nn N c : Nat} {i T : Int} {l5 l6 l7 l8 : xV} {S : xS} (h : INV T nn N c S) (hT : 0 ≤ T ∧ T ≤ 790000) (hi : 0 ≤ i ∧ i + 4 < (w.2.2.2.2.2.1 : Int)) (hN : w.2.2.2.2.2.1 < 2147483648) (hk : ∀ (n' N' c' : Nat) (S' : xS) (l5 l6 l7 l8 : xV), INV (T + 1500) n' N' c' S' → X w mL_law TG k n 2358 [xp 52 0, xp 0 0, xp 30 0, xp 42 0, xi i, l5, l6, l7, l8] [] S') : X w mL_law TG (k + 1) (n + 6) 1139 [xp 52 0, xp 0 0, xp 30 0, xp 42 0, xi i, l5, l6, l7, l8] [] S := by
  refine xs_aload_1 eL_law_1139 ?_
  refine xs_aload_0 eL_law_1140 ?_
  refine xs_iload_4 eL_law_1141 ?_
  refine xa_iconst eL_law_1143 ?_
  refine xa_iadd eL_law_1144 ?_
  refine xa_sld eL_law_1145 (by omega) hN ?_
  refine xs_aload_3 eL_law_1146 ?_
  refine xbi_H3 (mi' := mL_demand) (y := yL_demand) (k1 := 1) (n1 := 6) eL_law_1147 (zw_4 (xtb_in (i := 897) (by decide +kernel) (by decide +kernel)) wy_L_demand.1 li_RL wy_L_demand.2.2) rfl ⟨wd_L_demand, by decide, by decide⟩ (by omega) (w_demand h.1 (by omega) (xs_r _) (fun S1 hS1 => ?_))
  have io := i_demand (a := (w.2.2.2.2.2.2 (i + 1).toNat).toInt) h.1 h.2.1 (T := T) (by omega)
  have ht3 := t_demand (a := (w.2.2.2.2.2.2 (i + 1).toNat).toInt) (n := nn) (N := N) (C := S)
  have hR1 : Rel 0 nn N S (S1 31 0) := by rw [hS1.m io.2.2 (by decide) (by unfold sct; omega) (by omega) (by omega) (by omega) (by omega) (by omega) (by omega)]; exact h.2.2.1
  generalize ho : (o_demand (w.2.2.2.2.2.2 (i + 1).toNat).toInt nn N S) = o at hS1 io ht3
  refine xs_istore_5 eL_law_1150 rfl ?_
  refine xs_aload_2 eL_law_1152 ?_
  refine xs_aload_0 eL_law_1153 ?_
  refine xs_iload_4 eL_law_1154 ?_
  refine xa_iconst eL_law_1156 ?_
  refine xa_iadd eL_law_1157 ?_
  refine xa_sld eL_law_1158 (by omega) hN ?_
  refine X_store (stM_self S1).symm ?_
  refine xbi_V10 (mi' := mX8_demand) (y := yX8_demand) eL_law_1159 (xw_5 (xtb_in (i := 1407) (by decide +kernel) (by decide +kernel)) wy_X8_demand) rfl ⟨wd_X8_demand, by decide, by decide⟩ (by decide) (fun _ => rfl) rfl (Nat.le_of_ble_eq_true rfl) rfl (G_demand h.1 (by omega) hR1 (xs_r _) (fun r S2 M2 hr hf ht hrel => ?_))
  rw [ho] at hr ht hrel
  refine xs_istore_6 eL_law_1162 rfl ?_
  refine xs_aload_2 eL_law_1164 ?_
  refine xbi_V00 (mi' := mX8_thrown) (y := yX8_thrown) eL_law_1165 (xw_5 (xtb_in (i := 1188) (by decide +kernel) (by decide +kernel)) wy_X8_thrown) rfl ⟨wd_X8_thrown, by decide, by decide⟩ (by decide) (fun _ => rfl) rfl (Nat.le_of_ble_eq_true rfl) rfl (k_X8_thrown ?_)
  rw [show stM M2 S2 30 0 4 = (o.1 : Int) by rw [stM_k (by decide)]; exact ht]
  refine xs_iload_5 eL_law_1168 ?_
  refine xa_icmp_eq (tgt := 1175) eL_law_1170 (by decide) (by omega) (by omega) (fun c1170 => ?_) (fun c1170 => ?_)
  · refine xs_iload_5 eL_law_1175 ?_
    refine xa_if_ne (tgt := 1192) eL_law_1177 (by decide) (by omega) (fun c1177 => ?_) (fun c1177 => ?_)
    · refine xa_goto (tgt := 2358) eL_law_1192 (by decide) ?_
      exact hk _ _ _ _ _ _ _ _ (h.step io hS1 hf hrel)
    · refine xs_aload_3 eL_law_1180 ?_
      refine xa_iconst eL_law_1181 ?_
      refine gar_42 eL_law_1182 (by decide) (fun r9 => ?_)
      refine xs_iload_6 eL_law_1183 ?_
      refine xa_i2lw eL_law_1185 ?_
      refine xa_lcmp eL_law_1186 r9 (wr_64 _) ?_
      refine xa_ifc_eq (tgt := 1192) eL_law_1187 (by decide) (fun c1187 => ?_) (fun c1187 => ?_)
      · refine xa_goto (tgt := 2358) eL_law_1192 (by decide) ?_
        exact hk _ _ _ _ _ _ _ _ (h.step io hS1 hf hrel)
      · exact absurd (by show stM M2 S2 42 0 0 = wr r; rw [(show stM M2 S2 42 0 0 = wr o.2.1 by rw [stM_k (by decide), hf.1 42 0 (by omega)]; exact hS1.val (by omega)), hr (by omega)]) c1187
  · exact absurd rfl c1170
set_option maxHeartbeats 400000 in
theorem c_isBounded {w : xW} {TG : xT} {k n nn N c : Nat} {i T : Int} {l5 l6 l7 l8 : xV} {S : xS} (h : INV T nn N c S) (hT : 0 ≤ T ∧ T ≤ 790000) (hi : 0 ≤ i ∧ i + 4 < (w.2.2.2.2.2.1 : Int)) (hN : w.2.2.2.2.2.1 < 2147483648) (hk : ∀ (n' N' c' : Nat) (S' : xS) (l5 l6 l7 l8 : xV), INV (T + 1500) n' N' c' S' → X w mL_law TG k n 2358 [xp 52 0, xp 0 0, xp 30 0, xp 42 0, xi i, l5, l6, l7, l8] [] S') : X w mL_law TG (k + 1) (n + 6) 1208 [xp 52 0, xp 0 0, xp 30 0, xp 42 0, xi i, l5, l6, l7, l8] [] S := by
  refine xs_aload_1 eL_law_1208 ?_
  refine xs_aload_0 eL_law_1209 ?_
  refine xs_iload_4 eL_law_1210 ?_
  refine xa_iconst eL_law_1212 ?_
  refine xa_iadd eL_law_1213 ?_
  refine xa_sld eL_law_1214 (by omega) hN ?_
  refine xs_aload_0 eL_law_1215 ?_
  refine xs_iload_4 eL_law_1216 ?_
  refine xa_iconst eL_law_1218 ?_
  refine xa_iadd eL_law_1219 ?_
  refine xa_sld eL_law_1220 (by omega) hN ?_
  refine xs_aload_0 eL_law_1221 ?_
  refine xs_iload_4 eL_law_1222 ?_
  refine xa_iconst eL_law_1224 ?_
  refine xa_iadd eL_law_1225 ?_
  refine xa_sld eL_law_1226 (by omega) hN ?_
  refine xs_aload_3 eL_law_1227 ?_
  refine xbi_H5 (mi' := mL_isBounded) (y := yL_isBounded) (k1 := 1) (n1 := 6) eL_law_1228 (zw_4 (xtb_in (i := 905) (by decide +kernel) (by decide +kernel)) wy_L_isBounded.1 li_RL wy_L_isBounded.2.2) rfl ⟨wd_L_isBounded, by decide, by decide⟩ (by omega) (w_isBounded h.1 (by omega) (xs_r _) (xs_r _) (xs_r _) (fun S1 hS1 => ?_))
  have io := i_isBounded (p := (w.2.2.2.2.2.2 (i + 1).toNat).toInt) (b := (w.2.2.2.2.2.2 (i + 2).toNat).toInt) (d := (w.2.2.2.2.2.2 (i + 3).toNat).toInt) h.1 h.2.1 (T := T) (by omega)
  have ht3 := t_isBounded (p := (w.2.2.2.2.2.2 (i + 1).toNat).toInt) (b := (w.2.2.2.2.2.2 (i + 2).toNat).toInt) (d := (w.2.2.2.2.2.2 (i + 3).toNat).toInt) (n := nn) (N := N) (C := S)
  have hR1 : Rel 0 nn N S (S1 31 0) := by rw [hS1.m io.2.2 (by decide) (by unfold sct; omega) (by omega) (by omega) (by omega) (by omega) (by omega) (by omega)]; exact h.2.2.1
  generalize ho : (o_isBounded (w.2.2.2.2.2.2 (i + 1).toNat).toInt (w.2.2.2.2.2.2 (i + 2).toNat).toInt (w.2.2.2.2.2.2 (i + 3).toNat).toInt nn N S) = o at hS1 io ht3
  refine xs_istore_5 eL_law_1231 rfl ?_
  refine xs_aload_2 eL_law_1233 ?_
  refine xs_aload_0 eL_law_1234 ?_
  refine xs_iload_4 eL_law_1235 ?_
  refine xa_iconst eL_law_1237 ?_
  refine xa_iadd eL_law_1238 ?_
  refine xa_sld eL_law_1239 (by omega) hN ?_
  refine xs_aload_0 eL_law_1240 ?_
  refine xs_iload_4 eL_law_1241 ?_
  refine xa_iconst eL_law_1243 ?_
  refine xa_iadd eL_law_1244 ?_
  refine xa_sld eL_law_1245 (by omega) hN ?_
  refine xs_aload_0 eL_law_1246 ?_
  refine xs_iload_4 eL_law_1247 ?_
  refine xa_iconst eL_law_1249 ?_
  refine xa_iadd eL_law_1250 ?_
  refine xa_sld eL_law_1251 (by omega) hN ?_
  refine X_store (stM_self S1).symm ?_
  refine xbi_V30 (mi' := mX8_isBounded) (y := yX8_isBounded) eL_law_1252 (xw_5 (xtb_in (i := 1423) (by decide +kernel) (by decide +kernel)) wy_X8_isBounded) rfl ⟨wd_X8_isBounded, by decide, by decide⟩ (by decide) (fun _ => rfl) rfl (Nat.le_of_ble_eq_true rfl) rfl (G_isBounded h.1 (by omega) hR1 (xs_r _) (xs_r _) (xs_r _) (fun r S2 M2 hr hf ht hrel => ?_))
  rw [ho] at hr ht hrel
  refine xs_istore_6 eL_law_1255 rfl ?_
  refine xs_aload_2 eL_law_1257 ?_
  refine xbi_V00 (mi' := mX8_thrown) (y := yX8_thrown) eL_law_1258 (xw_5 (xtb_in (i := 1188) (by decide +kernel) (by decide +kernel)) wy_X8_thrown) rfl ⟨wd_X8_thrown, by decide, by decide⟩ (by decide) (fun _ => rfl) rfl (Nat.le_of_ble_eq_true rfl) rfl (k_X8_thrown ?_)
  rw [show stM M2 S2 30 0 4 = (o.1 : Int) by rw [stM_k (by decide)]; exact ht]
  have hz := z_isBounded (p := (w.2.2.2.2.2.2 (i + 1).toNat).toInt) (b := (w.2.2.2.2.2.2 (i + 2).toNat).toInt) (d := (w.2.2.2.2.2.2 (i + 3).toNat).toInt) (n := nn) (N := N) (C := S)
  rw [ho] at hz
  have hr2 : o.1 = 0 → r = 0 ∨ r = 1 := fun e => by rw [hr e]; exact hz
  refine xs_iload_5 eL_law_1261 ?_
  refine xa_icmp_eq (tgt := 1268) eL_law_1263 (by decide) (by omega) (by omega) (fun c1263 => ?_) (fun c1263 => ?_)
  · refine xs_iload_5 eL_law_1268 ?_
    refine xa_if_ne (tgt := 1292) eL_law_1270 (by decide) (by omega) (fun c1270 => ?_) (fun c1270 => ?_)
    · refine xa_goto (tgt := 2358) eL_law_1292 (by decide) ?_
      exact hk _ _ _ _ _ _ _ _ (h.step io hS1 hf hrel)
    · refine xs_aload_3 eL_law_1273 ?_
      refine xa_iconst eL_law_1274 ?_
      refine gar_42 eL_law_1275 (by decide) (fun r9 => ?_)
      refine xs_iload_6 eL_law_1276 ?_
      refine xa_if_eq (tgt := 1285) eL_law_1278 (by decide) (by have := hr2 (by omega); omega) (fun c1278 => ?_) (fun c1278 => ?_)
      · refine xa_lconst0 eL_law_1285 ?_
        refine xa_lcmp eL_law_1286 r9 (by decide) ?_
        refine xa_ifc_eq (tgt := 1292) eL_law_1287 (by decide) (fun c1287 => ?_) (fun c1287 => ?_)
        · refine xa_goto (tgt := 2358) eL_law_1292 (by decide) ?_
          exact hk _ _ _ _ _ _ _ _ (h.step io hS1 hf hrel)
        · exact absurd (by show stM M2 S2 42 0 0 = 0; rw [(show stM M2 S2 42 0 0 = wr o.2.1 by rw [stM_k (by decide), hf.1 42 0 (by omega)]; exact hS1.val (by omega)), ← hr (by omega)]; have := wr_id (a := r) (by omega); omega) c1287
      · refine xa_lconst1 eL_law_1281 ?_
        refine xa_goto (tgt := 1286) eL_law_1282 (by decide) ?_
        refine xa_lcmp eL_law_1286 r9 (by decide) ?_
        refine xa_ifc_eq (tgt := 1292) eL_law_1287 (by decide) (fun c1287 => ?_) (fun c1287 => ?_)
        · refine xa_goto (tgt := 2358) eL_law_1292 (by decide) ?_
          exact hk _ _ _ _ _ _ _ _ (h.step io hS1 hf hrel)
        · exact absurd (by show stM M2 S2 42 0 0 = 1; rw [(show stM M2 S2 42 0 0 = wr o.2.1 by rw [stM_k (by decide), hf.1 42 0 (by omega)]; exact hS1.val (by omega)), ← hr (by omega)]; have := wr_id (a := r) (by omega); omega) c1287
  · exact absurd rfl c1263
set_option maxHeartbeats 400000 in
theorem c_ask {w : xW} {TG : xT} {k n nn N c : Nat} {i T : Int} {l5 l6 l7 l8 : xV} {S : xS} (h : INV T nn N c S) (hT : 0 ≤ T ∧ T ≤ 790000) (hi : 0 ≤ i ∧ i + 4 < (w.2.2.2.2.2.1 : Int)) (hN : w.2.2.2.2.2.1 < 2147483648) (hk : ∀ (n' N' c' : Nat) (S' : xS) (l5 l6 l7 l8 : xV), INV (T + 1500) n' N' c' S' → X w mL_law TG k n 2358 [xp 52 0, xp 0 0, xp 30 0, xp 42 0, xi i, l5, l6, l7, l8] [] S') : X w mL_law TG (k + 1) (n + 6) 1349 [xp 52 0, xp 0 0, xp 30 0, xp 42 0, xi i, l5, l6, l7, l8] [] S := by
  refine xs_aload_1 eL_law_1349 ?_
  refine xs_aload_0 eL_law_1350 ?_
  refine xs_iload_4 eL_law_1351 ?_
  refine xa_iconst eL_law_1353 ?_
  refine xa_iadd eL_law_1354 ?_
  refine xa_sld eL_law_1355 (by omega) hN ?_
  refine xs_aload_0 eL_law_1356 ?_
  refine xs_iload_4 eL_law_1357 ?_
  refine xa_iconst eL_law_1359 ?_
  refine xa_iadd eL_law_1360 ?_
  refine xa_sld eL_law_1361 (by omega) hN ?_
  refine xs_aload_3 eL_law_1362 ?_
  refine xbi_H4 (mi' := mL_ask) (y := yL_ask) (k1 := 1) (n1 := 6) eL_law_1363 (zw_4 (xtb_in (i := 912) (by decide +kernel) (by decide +kernel)) wy_L_ask.1 li_RL wy_L_ask.2.2) rfl ⟨wd_L_ask, by decide, by decide⟩ (by omega) (w_ask h.1 (by omega) (xs_r _) (xs_r _) (fun S1 hS1 => ?_))
  have io := i_ask (j := (w.2.2.2.2.2.2 (i + 1).toNat).toInt) (a := (w.2.2.2.2.2.2 (i + 2).toNat).toInt) h.1 h.2.1 (T := T) (by omega)
  have ht3 := t_ask (j := (w.2.2.2.2.2.2 (i + 1).toNat).toInt) (a := (w.2.2.2.2.2.2 (i + 2).toNat).toInt) (n := nn) (N := N) (C := S)
  have hR1 : Rel 0 nn N S (S1 31 0) := by rw [hS1.m io.2.2 (by decide) (by unfold sct; omega) (by omega) (by omega) (by omega) (by omega) (by omega) (by omega)]; exact h.2.2.1
  generalize ho : (o_ask (w.2.2.2.2.2.2 (i + 1).toNat).toInt (w.2.2.2.2.2.2 (i + 2).toNat).toInt nn N S) = o at hS1 io ht3
  refine xs_istore_5 eL_law_1366 rfl ?_
  refine xs_aload_2 eL_law_1368 ?_
  refine xs_aload_0 eL_law_1369 ?_
  refine xs_iload_4 eL_law_1370 ?_
  refine xa_iconst eL_law_1372 ?_
  refine xa_iadd eL_law_1373 ?_
  refine xa_sld eL_law_1374 (by omega) hN ?_
  refine xs_aload_0 eL_law_1375 ?_
  refine xs_iload_4 eL_law_1376 ?_
  refine xa_iconst eL_law_1378 ?_
  refine xa_iadd eL_law_1379 ?_
  refine xa_sld eL_law_1380 (by omega) hN ?_
  refine X_store (stM_self S1).symm ?_
  refine xbi_V20 (mi' := mX8_ask) (y := yX8_ask) eL_law_1381 (xw_5 (xtb_in (i := 1439) (by decide +kernel) (by decide +kernel)) wy_X8_ask) rfl ⟨wd_X8_ask, by decide, by decide⟩ (by decide) (fun _ => rfl) rfl (Nat.le_of_ble_eq_true rfl) rfl (G_ask h.1 (by omega) hR1 (xs_r _) (xs_r _) (fun r S2 M2 hr hf ht hrel => ?_))
  rw [ho] at hr ht hrel
  refine xs_istore_6 eL_law_1384 rfl ?_
  refine xs_aload_2 eL_law_1386 ?_
  refine xbi_V00 (mi' := mX8_thrown) (y := yX8_thrown) eL_law_1387 (xw_5 (xtb_in (i := 1188) (by decide +kernel) (by decide +kernel)) wy_X8_thrown) rfl ⟨wd_X8_thrown, by decide, by decide⟩ (by decide) (fun _ => rfl) rfl (Nat.le_of_ble_eq_true rfl) rfl (k_X8_thrown ?_)
  rw [show stM M2 S2 30 0 4 = (o.1 : Int) by rw [stM_k (by decide)]; exact ht]
  refine xs_iload_5 eL_law_1390 ?_
  refine xa_icmp_eq (tgt := 1397) eL_law_1392 (by decide) (by omega) (by omega) (fun c1392 => ?_) (fun c1392 => ?_)
  · refine xs_iload_5 eL_law_1397 ?_
    refine xa_if_ne (tgt := 1414) eL_law_1399 (by decide) (by omega) (fun c1399 => ?_) (fun c1399 => ?_)
    · refine xa_goto (tgt := 2358) eL_law_1414 (by decide) ?_
      exact hk _ _ _ _ _ _ _ _ (h.step io hS1 hf hrel)
    · refine xs_aload_3 eL_law_1402 ?_
      refine xa_iconst eL_law_1403 ?_
      refine gar_42 eL_law_1404 (by decide) (fun r9 => ?_)
      refine xs_iload_6 eL_law_1405 ?_
      refine xa_i2lw eL_law_1407 ?_
      refine xa_lcmp eL_law_1408 r9 (wr_64 _) ?_
      refine xa_ifc_eq (tgt := 1414) eL_law_1409 (by decide) (fun c1409 => ?_) (fun c1409 => ?_)
      · refine xa_goto (tgt := 2358) eL_law_1414 (by decide) ?_
        exact hk _ _ _ _ _ _ _ _ (h.step io hS1 hf hrel)
      · exact absurd (by show stM M2 S2 42 0 0 = wr r; rw [(show stM M2 S2 42 0 0 = wr o.2.1 by rw [stM_k (by decide), hf.1 42 0 (by omega)]; exact hS1.val (by omega)), hr (by omega)]) c1409
  · exact absurd rfl c1392
set_option maxHeartbeats 400000 in
theorem c_buy {w : xW} {TG : xT} {k n nn N c : Nat} {i T : Int} {l5 l6 l7 l8 : xV} {S : xS} (h : INV T nn N c S) (hT : 0 ≤ T ∧ T ≤ 790000) (hi : 0 ≤ i ∧ i + 4 < (w.2.2.2.2.2.1 : Int)) (hN : w.2.2.2.2.2.1 < 2147483648) (hk : ∀ (n' N' c' : Nat) (S' : xS) (l5 l6 l7 l8 : xV), INV (T + 1500) n' N' c' S' → X w mL_law TG k n 2358 [xp 52 0, xp 0 0, xp 30 0, xp 42 0, xi i, l5, l6, l7, l8] [] S') : X w mL_law TG (k + 1) (n + 6) 1417 [xp 52 0, xp 0 0, xp 30 0, xp 42 0, xi i, l5, l6, l7, l8] [] S := by
  refine xs_aload_1 eL_law_1417 ?_
  refine xs_aload_0 eL_law_1418 ?_
  refine xs_iload_4 eL_law_1419 ?_
  refine xa_iconst eL_law_1421 ?_
  refine xa_iadd eL_law_1422 ?_
  refine xa_sld eL_law_1423 (by omega) hN ?_
  refine xs_aload_0 eL_law_1424 ?_
  refine xs_iload_4 eL_law_1425 ?_
  refine xa_iconst eL_law_1427 ?_
  refine xa_iadd eL_law_1428 ?_
  refine xa_sld eL_law_1429 (by omega) hN ?_
  refine xs_aload_3 eL_law_1430 ?_
  refine xbi_H4 (mi' := mL_buy) (y := yL_buy) (k1 := 1) (n1 := 6) eL_law_1431 (zw_4 (xtb_in (i := 920) (by decide +kernel) (by decide +kernel)) wy_L_buy.1 li_RL wy_L_buy.2.2) rfl ⟨wd_L_buy, by decide, by decide⟩ (by omega) (w_buy h.1 (by omega) (xs_r _) (xs_r _) (fun S1 hS1 => ?_))
  have io := i_buy (j := (w.2.2.2.2.2.2 (i + 1).toNat).toInt) (q := (w.2.2.2.2.2.2 (i + 2).toNat).toInt) h.1 h.2.1 (T := T) (by omega)
  have ht3 := t_buy (j := (w.2.2.2.2.2.2 (i + 1).toNat).toInt) (q := (w.2.2.2.2.2.2 (i + 2).toNat).toInt) (n := nn) (N := N) (C := S)
  have hR1 : Rel 0 nn N S (S1 31 0) := by rw [hS1.m io.2.2 (by decide) (by unfold sct; omega) (by omega) (by omega) (by omega) (by omega) (by omega) (by omega)]; exact h.2.2.1
  generalize ho : (o_buy (w.2.2.2.2.2.2 (i + 1).toNat).toInt (w.2.2.2.2.2.2 (i + 2).toNat).toInt nn N S) = o at hS1 io ht3
  refine xs_istore_5 eL_law_1434 rfl ?_
  refine xs_aload_2 eL_law_1436 ?_
  refine xs_aload_0 eL_law_1437 ?_
  refine xs_iload_4 eL_law_1438 ?_
  refine xa_iconst eL_law_1440 ?_
  refine xa_iadd eL_law_1441 ?_
  refine xa_sld eL_law_1442 (by omega) hN ?_
  refine xs_aload_0 eL_law_1443 ?_
  refine xs_iload_4 eL_law_1444 ?_
  refine xa_iconst eL_law_1446 ?_
  refine xa_iadd eL_law_1447 ?_
  refine xa_sld eL_law_1448 (by omega) hN ?_
  refine X_store (stM_self S1).symm ?_
  refine xbi_V20 (mi' := mX8_buy) (y := yX8_buy) eL_law_1449 (xw_5 (xtb_in (i := 1444) (by decide +kernel) (by decide +kernel)) wy_X8_buy) rfl ⟨wd_X8_buy, by decide, by decide⟩ (by decide) (fun _ => rfl) rfl (Nat.le_of_ble_eq_true rfl) rfl (G_buy h.1 (by omega) hR1 (xs_r _) (xs_r _) (fun r S2 M2 hr hf ht hrel => ?_))
  rw [ho] at hr ht hrel
  refine xs_istore_6 eL_law_1452 rfl ?_
  refine xs_aload_2 eL_law_1454 ?_
  refine xbi_V00 (mi' := mX8_thrown) (y := yX8_thrown) eL_law_1455 (xw_5 (xtb_in (i := 1188) (by decide +kernel) (by decide +kernel)) wy_X8_thrown) rfl ⟨wd_X8_thrown, by decide, by decide⟩ (by decide) (fun _ => rfl) rfl (Nat.le_of_ble_eq_true rfl) rfl (k_X8_thrown ?_)
  rw [show stM M2 S2 30 0 4 = (o.1 : Int) by rw [stM_k (by decide)]; exact ht]
  refine xs_iload_5 eL_law_1458 ?_
  refine xa_icmp_eq (tgt := 1465) eL_law_1460 (by decide) (by omega) (by omega) (fun c1460 => ?_) (fun c1460 => ?_)
  · refine xs_iload_5 eL_law_1465 ?_
    refine xa_if_ne (tgt := 1482) eL_law_1467 (by decide) (by omega) (fun c1467 => ?_) (fun c1467 => ?_)
    · refine xa_goto (tgt := 2358) eL_law_1482 (by decide) ?_
      exact hk _ _ _ _ _ _ _ _ (h.step io hS1 hf hrel)
    · refine xs_aload_3 eL_law_1470 ?_
      refine xa_iconst eL_law_1471 ?_
      refine gar_42 eL_law_1472 (by decide) (fun r9 => ?_)
      refine xs_iload_6 eL_law_1473 ?_
      refine xa_i2lw eL_law_1475 ?_
      refine xa_lcmp eL_law_1476 r9 (wr_64 _) ?_
      refine xa_ifc_eq (tgt := 1482) eL_law_1477 (by decide) (fun c1477 => ?_) (fun c1477 => ?_)
      · refine xa_goto (tgt := 2358) eL_law_1482 (by decide) ?_
        exact hk _ _ _ _ _ _ _ _ (h.step io hS1 hf hrel)
      · exact absurd (by show stM M2 S2 42 0 0 = wr r; rw [(show stM M2 S2 42 0 0 = wr o.2.1 by rw [stM_k (by decide), hf.1 42 0 (by omega)]; exact hS1.val (by omega)), hr (by omega)]) c1477
  · exact absurd rfl c1460
set_option maxHeartbeats 400000 in
theorem c_buyCheapest {w : xW} {TG : xT} {k n nn N c : Nat} {i T : Int} {l5 l6 l7 l8 : xV} {S : xS} (h : INV T nn N c S) (hT : 0 ≤ T ∧ T ≤ 790000) (hi : 0 ≤ i ∧ i + 4 < (w.2.2.2.2.2.1 : Int)) (hN : w.2.2.2.2.2.1 < 2147483648) (hk : ∀ (n' N' c' : Nat) (S' : xS) (l5 l6 l7 l8 : xV), INV (T + 1500) n' N' c' S' → X w mL_law TG k n 2358 [xp 52 0, xp 0 0, xp 30 0, xp 42 0, xi i, l5, l6, l7, l8] [] S') : X w mL_law TG (k + 1) (n + 6) 1485 [xp 52 0, xp 0 0, xp 30 0, xp 42 0, xi i, l5, l6, l7, l8] [] S := by
  refine xs_aload_1 eL_law_1485 ?_
  refine xs_aload_0 eL_law_1486 ?_
  refine xs_iload_4 eL_law_1487 ?_
  refine xa_iconst eL_law_1489 ?_
  refine xa_iadd eL_law_1490 ?_
  refine xa_sld eL_law_1491 (by omega) hN ?_
  refine xs_aload_3 eL_law_1492 ?_
  refine xbi_H3 (mi' := mL_buyCheapest) (y := yL_buyCheapest) (k1 := 1) (n1 := 6) eL_law_1493 (zw_4 (xtb_in (i := 944) (by decide +kernel) (by decide +kernel)) wy_L_buyCheapest.1 li_RL wy_L_buyCheapest.2.2) rfl ⟨wd_L_buyCheapest, by decide, by decide⟩ (by omega) (w_buyCheapest h.1 (by omega) (xs_r _) (fun S1 hS1 => ?_))
  have io := i_buyCheapest (q := (w.2.2.2.2.2.2 (i + 1).toNat).toInt) h.1 h.2.1 (T := T) (by omega)
  have ht3 := t_buyCheapest (q := (w.2.2.2.2.2.2 (i + 1).toNat).toInt) (n := nn) (N := N) (C := S)
  have hR1 : Rel 0 nn N S (S1 31 0) := by rw [hS1.m io.2.2 (by decide) (by unfold sct; omega) (by omega) (by omega) (by omega) (by omega) (by omega) (by omega)]; exact h.2.2.1
  generalize ho : (o_buyCheapest (w.2.2.2.2.2.2 (i + 1).toNat).toInt nn N S) = o at hS1 io ht3
  refine xs_istore_5 eL_law_1496 rfl ?_
  refine xs_aload_2 eL_law_1498 ?_
  refine xs_aload_0 eL_law_1499 ?_
  refine xs_iload_4 eL_law_1500 ?_
  refine xa_iconst eL_law_1502 ?_
  refine xa_iadd eL_law_1503 ?_
  refine xa_sld eL_law_1504 (by omega) hN ?_
  refine X_store (stM_self S1).symm ?_
  refine xbi_V10 (mi' := mX8_buyCheapest) (y := yX8_buyCheapest) eL_law_1505 (xw_5 (xtb_in (i := 1456) (by decide +kernel) (by decide +kernel)) wy_X8_buyCheapest) rfl ⟨wd_X8_buyCheapest, by decide, by decide⟩ (by decide) (fun _ => rfl) rfl (Nat.le_of_ble_eq_true rfl) rfl (G_buyCheapest h.1 (by omega) hR1 (xs_r _) (fun r S2 M2 hr hf ht hrel => ?_))
  rw [ho] at hr ht hrel
  refine xs_istore_6 eL_law_1508 rfl ?_
  refine xs_aload_2 eL_law_1510 ?_
  refine xbi_V00 (mi' := mX8_thrown) (y := yX8_thrown) eL_law_1511 (xw_5 (xtb_in (i := 1188) (by decide +kernel) (by decide +kernel)) wy_X8_thrown) rfl ⟨wd_X8_thrown, by decide, by decide⟩ (by decide) (fun _ => rfl) rfl (Nat.le_of_ble_eq_true rfl) rfl (k_X8_thrown ?_)
  rw [show stM M2 S2 30 0 4 = (o.1 : Int) by rw [stM_k (by decide)]; exact ht]
  refine xs_iload_5 eL_law_1514 ?_
  refine xa_icmp_eq (tgt := 1521) eL_law_1516 (by decide) (by omega) (by omega) (fun c1516 => ?_) (fun c1516 => ?_)
  · refine xs_iload_5 eL_law_1521 ?_
    refine xa_if_ne (tgt := 1538) eL_law_1523 (by decide) (by omega) (fun c1523 => ?_) (fun c1523 => ?_)
    · refine xa_goto (tgt := 2358) eL_law_1538 (by decide) ?_
      exact hk _ _ _ _ _ _ _ _ (h.step io hS1 hf hrel)
    · refine xs_aload_3 eL_law_1526 ?_
      refine xa_iconst eL_law_1527 ?_
      refine gar_42 eL_law_1528 (by decide) (fun r9 => ?_)
      refine xs_iload_6 eL_law_1529 ?_
      refine xa_i2lw eL_law_1531 ?_
      refine xa_lcmp eL_law_1532 r9 (wr_64 _) ?_
      refine xa_ifc_eq (tgt := 1538) eL_law_1533 (by decide) (fun c1533 => ?_) (fun c1533 => ?_)
      · refine xa_goto (tgt := 2358) eL_law_1538 (by decide) ?_
        exact hk _ _ _ _ _ _ _ _ (h.step io hS1 hf hrel)
      · exact absurd (by show stM M2 S2 42 0 0 = wr r; rw [(show stM M2 S2 42 0 0 = wr o.2.1 by rw [stM_k (by decide), hf.1 42 0 (by omega)]; exact hS1.val (by omega)), hr (by omega)]) c1533
  · exact absurd rfl c1516
set_option maxHeartbeats 400000 in
theorem c_lease {w : xW} {TG : xT} {k n nn N c : Nat} {i T : Int} {l5 l6 l7 l8 : xV} {S : xS} (h : INV T nn N c S) (hT : 0 ≤ T ∧ T ≤ 790000) (hi : 0 ≤ i ∧ i + 4 < (w.2.2.2.2.2.1 : Int)) (hN : w.2.2.2.2.2.1 < 2147483648) (hk : ∀ (n' N' c' : Nat) (S' : xS) (l5 l6 l7 l8 : xV), INV (T + 1500) n' N' c' S' → X w mL_law TG k n 2358 [xp 52 0, xp 0 0, xp 30 0, xp 42 0, xi i, l5, l6, l7, l8] [] S') : X w mL_law TG (k + 1) (n + 6) 1541 [xp 52 0, xp 0 0, xp 30 0, xp 42 0, xi i, l5, l6, l7, l8] [] S := by
  refine xs_aload_1 eL_law_1541 ?_
  refine xs_aload_0 eL_law_1542 ?_
  refine xs_iload_4 eL_law_1543 ?_
  refine xa_iconst eL_law_1545 ?_
  refine xa_iadd eL_law_1546 ?_
  refine xa_sld eL_law_1547 (by omega) hN ?_
  refine xs_aload_0 eL_law_1548 ?_
  refine xs_iload_4 eL_law_1549 ?_
  refine xa_iconst eL_law_1551 ?_
  refine xa_iadd eL_law_1552 ?_
  refine xa_sld eL_law_1553 (by omega) hN ?_
  refine xs_aload_0 eL_law_1554 ?_
  refine xs_iload_4 eL_law_1555 ?_
  refine xa_iconst eL_law_1557 ?_
  refine xa_iadd eL_law_1558 ?_
  refine xa_sld eL_law_1559 (by omega) hN ?_
  refine xs_aload_0 eL_law_1560 ?_
  refine xs_iload_4 eL_law_1561 ?_
  refine xa_iconst eL_law_1563 ?_
  refine xa_iadd eL_law_1564 ?_
  refine xa_sld eL_law_1565 (by omega) hN ?_
  refine xs_aload_3 eL_law_1566 ?_
  refine xbi_H6 (mi' := mL_lease) (y := yL_lease) (k1 := 1) (n1 := 6) eL_law_1567 (zw_4 (xtb_in (i := 960) (by decide +kernel) (by decide +kernel)) wy_L_lease.1 li_RL wy_L_lease.2.2) rfl ⟨wd_L_lease, by decide, by decide⟩ (by omega) (w_lease h.1 (by omega) (xs_r _) (xs_r _) (xs_r _) (xs_r _) (fun S1 hS1 => ?_))
  have io := i_lease (j := (w.2.2.2.2.2.2 (i + 1).toNat).toInt) (q := (w.2.2.2.2.2.2 (i + 2).toNat).toInt) (k := (w.2.2.2.2.2.2 (i + 3).toNat).toInt) (a := (w.2.2.2.2.2.2 (i + 4).toNat).toInt) h.1 h.2.1 (T := T) (by omega)
  have ht3 := t_lease (j := (w.2.2.2.2.2.2 (i + 1).toNat).toInt) (q := (w.2.2.2.2.2.2 (i + 2).toNat).toInt) (k := (w.2.2.2.2.2.2 (i + 3).toNat).toInt) (a := (w.2.2.2.2.2.2 (i + 4).toNat).toInt) (n := nn) (N := N) (C := S)
  have hR1 : Rel 0 nn N S (S1 31 0) := by rw [hS1.m io.2.2 (by decide) (by unfold sct; omega) (by omega) (by omega) (by omega) (by omega) (by omega) (by omega)]; exact h.2.2.1
  generalize ho : (o_lease (w.2.2.2.2.2.2 (i + 1).toNat).toInt (w.2.2.2.2.2.2 (i + 2).toNat).toInt (w.2.2.2.2.2.2 (i + 3).toNat).toInt (w.2.2.2.2.2.2 (i + 4).toNat).toInt nn N S) = o at hS1 io ht3
  refine xs_istore_5 eL_law_1570 rfl ?_
  refine xs_aload_2 eL_law_1572 ?_
  refine xs_aload_0 eL_law_1573 ?_
  refine xs_iload_4 eL_law_1574 ?_
  refine xa_iconst eL_law_1576 ?_
  refine xa_iadd eL_law_1577 ?_
  refine xa_sld eL_law_1578 (by omega) hN ?_
  refine xs_aload_0 eL_law_1579 ?_
  refine xs_iload_4 eL_law_1580 ?_
  refine xa_iconst eL_law_1582 ?_
  refine xa_iadd eL_law_1583 ?_
  refine xa_sld eL_law_1584 (by omega) hN ?_
  refine xs_aload_0 eL_law_1585 ?_
  refine xs_iload_4 eL_law_1586 ?_
  refine xa_iconst eL_law_1588 ?_
  refine xa_iadd eL_law_1589 ?_
  refine xa_sld eL_law_1590 (by omega) hN ?_
  refine xs_aload_0 eL_law_1591 ?_
  refine xs_iload_4 eL_law_1592 ?_
  refine xa_iconst eL_law_1594 ?_
  refine xa_iadd eL_law_1595 ?_
  refine xa_sld eL_law_1596 (by omega) hN ?_
  refine X_store (stM_self S1).symm ?_
  refine xbi_V40 (mi' := mX8_lease) (y := yX8_lease) eL_law_1597 (xw_5 (xtb_in (i := 1464) (by decide +kernel) (by decide +kernel)) wy_X8_lease) rfl ⟨wd_X8_lease, by decide, by decide⟩ (by decide) (fun _ => rfl) rfl (Nat.le_of_ble_eq_true rfl) rfl (G_lease h.1 (by omega) hR1 (xs_r _) (xs_r _) (xs_r _) (xs_r _) (fun r S2 M2 hr hf ht hrel => ?_))
  rw [ho] at hr ht hrel
  refine xs_istore_6 eL_law_1600 rfl ?_
  refine xs_aload_2 eL_law_1602 ?_
  refine xbi_V00 (mi' := mX8_thrown) (y := yX8_thrown) eL_law_1603 (xw_5 (xtb_in (i := 1188) (by decide +kernel) (by decide +kernel)) wy_X8_thrown) rfl ⟨wd_X8_thrown, by decide, by decide⟩ (by decide) (fun _ => rfl) rfl (Nat.le_of_ble_eq_true rfl) rfl (k_X8_thrown ?_)
  rw [show stM M2 S2 30 0 4 = (o.1 : Int) by rw [stM_k (by decide)]; exact ht]
  refine xs_iload_5 eL_law_1606 ?_
  refine xa_icmp_eq (tgt := 1613) eL_law_1608 (by decide) (by omega) (by omega) (fun c1608 => ?_) (fun c1608 => ?_)
  · refine xs_iload_5 eL_law_1613 ?_
    refine xa_if_ne (tgt := 1630) eL_law_1615 (by decide) (by omega) (fun c1615 => ?_) (fun c1615 => ?_)
    · refine xa_goto (tgt := 2358) eL_law_1630 (by decide) ?_
      exact hk _ _ _ _ _ _ _ _ (h.step io hS1 hf hrel)
    · refine xs_aload_3 eL_law_1618 ?_
      refine xa_iconst eL_law_1619 ?_
      refine gar_42 eL_law_1620 (by decide) (fun r9 => ?_)
      refine xs_iload_6 eL_law_1621 ?_
      refine xa_i2lw eL_law_1623 ?_
      refine xa_lcmp eL_law_1624 r9 (wr_64 _) ?_
      refine xa_ifc_eq (tgt := 1630) eL_law_1625 (by decide) (fun c1625 => ?_) (fun c1625 => ?_)
      · refine xa_goto (tgt := 2358) eL_law_1630 (by decide) ?_
        exact hk _ _ _ _ _ _ _ _ (h.step io hS1 hf hrel)
      · exact absurd (by show stM M2 S2 42 0 0 = wr r; rw [(show stM M2 S2 42 0 0 = wr o.2.1 by rw [stM_k (by decide), hf.1 42 0 (by omega)]; exact hS1.val (by omega)), hr (by omega)]) c1625
  · exact absurd rfl c1608
set_option maxHeartbeats 400000 in
theorem c_sales {w : xW} {TG : xT} {k n nn N c : Nat} {i T : Int} {l5 l6 l7 l8 : xV} {S : xS} (h : INV T nn N c S) (hT : 0 ≤ T ∧ T ≤ 790000) (hi : 0 ≤ i ∧ i + 4 < (w.2.2.2.2.2.1 : Int)) (hN : w.2.2.2.2.2.1 < 2147483648) (hk : ∀ (n' N' c' : Nat) (S' : xS) (l5 l6 l7 l8 : xV), INV (T + 1500) n' N' c' S' → X w mL_law TG k n 2358 [xp 52 0, xp 0 0, xp 30 0, xp 42 0, xi i, l5, l6, l7, l8] [] S') : X w mL_law TG (k + 1) (n + 6) 1633 [xp 52 0, xp 0 0, xp 30 0, xp 42 0, xi i, l5, l6, l7, l8] [] S := by
  refine xs_aload_1 eL_law_1633 ?_
  refine xs_aload_0 eL_law_1634 ?_
  refine xs_iload_4 eL_law_1635 ?_
  refine xa_iconst eL_law_1637 ?_
  refine xa_iadd eL_law_1638 ?_
  refine xa_sld eL_law_1639 (by omega) hN ?_
  refine xs_aload_0 eL_law_1640 ?_
  refine xs_iload_4 eL_law_1641 ?_
  refine xa_iconst eL_law_1643 ?_
  refine xa_iadd eL_law_1644 ?_
  refine xa_sld eL_law_1645 (by omega) hN ?_
  refine xs_aload_3 eL_law_1646 ?_
  refine xbi_H4 (mi' := mL_sales) (y := yL_sales) (k1 := 1) (n1 := 6) eL_law_1647 (zw_4 (xtb_in (i := 967) (by decide +kernel) (by decide +kernel)) wy_L_sales.1 li_RL wy_L_sales.2.2) rfl ⟨wd_L_sales, by decide, by decide⟩ (by omega) (w_sales h.1 (by omega) (xs_r _) (xs_r _) (fun S1 hS1 => ?_))
  have io := i_sales (p := (w.2.2.2.2.2.2 (i + 1).toNat).toInt) (q := (w.2.2.2.2.2.2 (i + 2).toNat).toInt) h.1 h.2.1 (T := T) (by omega)
  have ht3 := t_sales (p := (w.2.2.2.2.2.2 (i + 1).toNat).toInt) (q := (w.2.2.2.2.2.2 (i + 2).toNat).toInt) (n := nn) (N := N) (C := S)
  have hR1 : Rel 0 nn N S (S1 31 0) := by rw [hS1.m io.2.2 (by decide) (by unfold sct; omega) (by omega) (by omega) (by omega) (by omega) (by omega) (by omega)]; exact h.2.2.1
  generalize ho : (o_sales (w.2.2.2.2.2.2 (i + 1).toNat).toInt (w.2.2.2.2.2.2 (i + 2).toNat).toInt nn N S) = o at hS1 io ht3
  refine xs_istore_5 eL_law_1650 rfl ?_
  refine xs_aload_2 eL_law_1652 ?_
  refine xs_aload_0 eL_law_1653 ?_
  refine xs_iload_4 eL_law_1654 ?_
  refine xa_iconst eL_law_1656 ?_
  refine xa_iadd eL_law_1657 ?_
  refine xa_sld eL_law_1658 (by omega) hN ?_
  refine xs_aload_0 eL_law_1659 ?_
  refine xs_iload_4 eL_law_1660 ?_
  refine xa_iconst eL_law_1662 ?_
  refine xa_iadd eL_law_1663 ?_
  refine xa_sld eL_law_1664 (by omega) hN ?_
  refine X_store (stM_self S1).symm ?_
  refine xbi_V20 (mi' := mX8_sales) (y := yX8_sales) eL_law_1665 (xw_5 (xtb_in (i := 1470) (by decide +kernel) (by decide +kernel)) wy_X8_sales) rfl ⟨wd_X8_sales, by decide, by decide⟩ (by decide) (fun _ => rfl) rfl (Nat.le_of_ble_eq_true rfl) rfl (G_sales h.1 (by omega) hR1 (xs_r _) (xs_r _) (fun r S2 M2 hr hf ht hrel => ?_))
  rw [ho] at hr ht hrel
  refine xs_istore_6 eL_law_1668 rfl ?_
  refine xs_aload_2 eL_law_1670 ?_
  refine xbi_V00 (mi' := mX8_thrown) (y := yX8_thrown) eL_law_1671 (xw_5 (xtb_in (i := 1188) (by decide +kernel) (by decide +kernel)) wy_X8_thrown) rfl ⟨wd_X8_thrown, by decide, by decide⟩ (by decide) (fun _ => rfl) rfl (Nat.le_of_ble_eq_true rfl) rfl (k_X8_thrown ?_)
  rw [show stM M2 S2 30 0 4 = (o.1 : Int) by rw [stM_k (by decide)]; exact ht]
  refine xs_iload_5 eL_law_1674 ?_
  refine xa_icmp_eq (tgt := 1681) eL_law_1676 (by decide) (by omega) (by omega) (fun c1676 => ?_) (fun c1676 => ?_)
  · refine xs_iload_5 eL_law_1681 ?_
    refine xa_if_ne (tgt := 1698) eL_law_1683 (by decide) (by omega) (fun c1683 => ?_) (fun c1683 => ?_)
    · refine xa_goto (tgt := 2358) eL_law_1698 (by decide) ?_
      exact hk _ _ _ _ _ _ _ _ (h.step io hS1 hf hrel)
    · refine xs_aload_3 eL_law_1686 ?_
      refine xa_iconst eL_law_1687 ?_
      refine gar_42 eL_law_1688 (by decide) (fun r9 => ?_)
      refine xs_iload_6 eL_law_1689 ?_
      refine xa_i2lw eL_law_1691 ?_
      refine xa_lcmp eL_law_1692 r9 (wr_64 _) ?_
      refine xa_ifc_eq (tgt := 1698) eL_law_1693 (by decide) (fun c1693 => ?_) (fun c1693 => ?_)
      · refine xa_goto (tgt := 2358) eL_law_1698 (by decide) ?_
        exact hk _ _ _ _ _ _ _ _ (h.step io hS1 hf hrel)
      · exact absurd (by show stM M2 S2 42 0 0 = wr r; rw [(show stM M2 S2 42 0 0 = wr o.2.1 by rw [stM_k (by decide), hf.1 42 0 (by omega)]; exact hS1.val (by omega)), hr (by omega)]) c1693
  · exact absurd rfl c1676
set_option maxHeartbeats 400000 in
theorem c_setRules {w : xW} {TG : xT} {k n nn N c : Nat} {i T : Int} {l5 l6 l7 l8 : xV} {S : xS} (h : INV T nn N c S) (hT : 0 ≤ T ∧ T ≤ 790000) (hi : 0 ≤ i ∧ i + 4 < (w.2.2.2.2.2.1 : Int)) (hN : w.2.2.2.2.2.1 < 2147483648) (hk : ∀ (n' N' c' : Nat) (S' : xS) (l5 l6 l7 l8 : xV), INV (T + 1500) n' N' c' S' → X w mL_law TG k n 2358 [xp 52 0, xp 0 0, xp 30 0, xp 42 0, xi i, l5, l6, l7, l8] [] S') : X w mL_law TG (k + 1) (n + 6) 1757 [xp 52 0, xp 0 0, xp 30 0, xp 42 0, xi i, l5, l6, l7, l8] [] S := by
  refine xs_aload_1 eL_law_1757 ?_
  refine xs_aload_0 eL_law_1758 ?_
  refine xs_iload_4 eL_law_1759 ?_
  refine xa_iconst eL_law_1761 ?_
  refine xa_iadd eL_law_1762 ?_
  refine xa_sld eL_law_1763 (by omega) hN ?_
  refine xs_aload_0 eL_law_1764 ?_
  refine xs_iload_4 eL_law_1765 ?_
  refine xa_iconst eL_law_1767 ?_
  refine xa_iadd eL_law_1768 ?_
  refine xa_sld eL_law_1769 (by omega) hN ?_
  refine xbi_H3 (mi' := mL_setRules) (y := yL_setRules) (k1 := 1) (n1 := 6) eL_law_1770 (zw_4 (xtb_in (i := 978) (by decide +kernel) (by decide +kernel)) wy_L_setRules.1 li_RL wy_L_setRules.2.2) rfl ⟨wd_L_setRules, by decide, by decide⟩ (by omega) (w_setRules h.1 (by omega) (xs_r _) (xs_r _) (fun S1 hS1 => ?_))
  have io := i_setRules (p := (w.2.2.2.2.2.2 (i + 1).toNat).toInt) (f := (w.2.2.2.2.2.2 (i + 2).toNat).toInt) h.1 h.2.1 (T := T) (by omega)
  have ht3 := t_setRules (p := (w.2.2.2.2.2.2 (i + 1).toNat).toInt) (f := (w.2.2.2.2.2.2 (i + 2).toNat).toInt) (n := nn) (N := N) (C := S)
  have hR1 : Rel 0 nn N S (S1 31 0) := by rw [hS1.m io.2.2 (by decide) (by unfold sct; omega) (by omega) (by omega) (by omega) (by omega) (by omega) (by omega)]; exact h.2.2.1
  generalize ho : (o_setRules (w.2.2.2.2.2.2 (i + 1).toNat).toInt (w.2.2.2.2.2.2 (i + 2).toNat).toInt nn N S) = o at hS1 io ht3
  refine xs_istore_5 eL_law_1773 rfl ?_
  refine xs_aload_2 eL_law_1775 ?_
  refine xs_aload_0 eL_law_1776 ?_
  refine xs_iload_4 eL_law_1777 ?_
  refine xa_iconst eL_law_1779 ?_
  refine xa_iadd eL_law_1780 ?_
  refine xa_sld eL_law_1781 (by omega) hN ?_
  refine xs_aload_0 eL_law_1782 ?_
  refine xs_iload_4 eL_law_1783 ?_
  refine xa_iconst eL_law_1785 ?_
  refine xa_iadd eL_law_1786 ?_
  refine xa_sld eL_law_1787 (by omega) hN ?_
  refine X_store (stM_self S1).symm ?_
  refine xbv_V20 (mi' := mX8_setRules) (y := yX8_setRules) eL_law_1788 (xw_5 (xtb_in (i := 1483) (by decide +kernel) (by decide +kernel)) wy_X8_setRules) rfl ⟨wd_X8_setRules, by decide, by decide⟩ (by decide) (fun _ => rfl) rfl (Nat.le_of_ble_eq_true rfl) rfl (G_setRules h.1 (by omega) hR1 (xs_r _) (xs_r _) (fun S2 M2 hf ht hrel => ?_))
  rw [ho] at ht hrel
  refine xs_aload_2 eL_law_1791 ?_
  refine xbi_V00 (mi' := mX8_thrown) (y := yX8_thrown) eL_law_1792 (xw_5 (xtb_in (i := 1188) (by decide +kernel) (by decide +kernel)) wy_X8_thrown) rfl ⟨wd_X8_thrown, by decide, by decide⟩ (by decide) (fun _ => rfl) rfl (Nat.le_of_ble_eq_true rfl) rfl (k_X8_thrown ?_)
  rw [show stM M2 S2 30 0 4 = (o.1 : Int) by rw [stM_k (by decide)]; exact ht]
  refine xs_iload_5 eL_law_1795 ?_
  refine xa_icmp_eq (tgt := 1802) eL_law_1797 (by decide) (by omega) (by omega) (fun c1797 => ?_) (fun c1797 => ?_)
  · refine xa_goto (tgt := 2358) eL_law_1802 (by decide) ?_
    exact hk _ _ _ _ _ _ _ _ (h.step io hS1 hf hrel)
  · exact absurd rfl c1797
set_option maxHeartbeats 400000 in
theorem c_count {w : xW} {TG : xT} {k n nn N c : Nat} {i T : Int} {l5 l6 l7 l8 : xV} {S : xS} (h : INV T nn N c S) (hT : 0 ≤ T ∧ T ≤ 790000) (hi : 0 ≤ i ∧ i + 4 < (w.2.2.2.2.2.1 : Int)) (hN : w.2.2.2.2.2.1 < 2147483648) (hk : ∀ (n' N' c' : Nat) (S' : xS) (l5 l6 l7 l8 : xV), INV (T + 1500) n' N' c' S' → X w mL_law TG k n 2358 [xp 52 0, xp 0 0, xp 30 0, xp 42 0, xi i, l5, l6, l7, l8] [] S') : X w mL_law TG (k + 1) (n + 6) 1805 [xp 52 0, xp 0 0, xp 30 0, xp 42 0, xi i, l5, l6, l7, l8] [] S := by
  refine xs_aload_1 eL_law_1805 ?_
  refine xs_aload_0 eL_law_1806 ?_
  refine xs_iload_4 eL_law_1807 ?_
  refine xa_iconst eL_law_1809 ?_
  refine xa_iadd eL_law_1810 ?_
  refine xa_sld eL_law_1811 (by omega) hN ?_
  refine xs_aload_3 eL_law_1812 ?_
  refine xbi_H3 (mi' := mL_count) (y := yL_count) (k1 := 1) (n1 := 6) eL_law_1813 (zw_4 (xtb_in (i := 985) (by decide +kernel) (by decide +kernel)) wy_L_count.1 li_RL wy_L_count.2.2) rfl ⟨wd_L_count, by decide, by decide⟩ (by omega) (w_count h.1 (by omega) (xs_r _) (fun S1 hS1 => ?_))
  have io := i_count (a := (w.2.2.2.2.2.2 (i + 1).toNat).toInt) h.1 h.2.1 (T := T) (by omega)
  have ht3 := t_count (a := (w.2.2.2.2.2.2 (i + 1).toNat).toInt) (n := nn) (N := N) (C := S)
  have hR1 : Rel 0 nn N S (S1 31 0) := by rw [hS1.m io.2.2 (by decide) (by unfold sct; omega) (by omega) (by omega) (by omega) (by omega) (by omega) (by omega)]; exact h.2.2.1
  generalize ho : (o_count (w.2.2.2.2.2.2 (i + 1).toNat).toInt nn N S) = o at hS1 io ht3
  refine xs_istore_5 eL_law_1816 rfl ?_
  refine xs_aload_2 eL_law_1818 ?_
  refine xs_aload_0 eL_law_1819 ?_
  refine xs_iload_4 eL_law_1820 ?_
  refine xa_iconst eL_law_1822 ?_
  refine xa_iadd eL_law_1823 ?_
  refine xa_sld eL_law_1824 (by omega) hN ?_
  refine X_store (stM_self S1).symm ?_
  refine xbi_V10 (mi' := mX8_count) (y := yX8_count) eL_law_1825 (xw_5 (xtb_in (i := 1487) (by decide +kernel) (by decide +kernel)) wy_X8_count) rfl ⟨wd_X8_count, by decide, by decide⟩ (by decide) (fun _ => rfl) rfl (Nat.le_of_ble_eq_true rfl) rfl (G_count h.1 (by omega) hR1 (xs_r _) (fun r S2 M2 hr hf ht hrel => ?_))
  rw [ho] at hr ht hrel
  refine xs_istore_6 eL_law_1828 rfl ?_
  refine xs_aload_2 eL_law_1830 ?_
  refine xbi_V00 (mi' := mX8_thrown) (y := yX8_thrown) eL_law_1831 (xw_5 (xtb_in (i := 1188) (by decide +kernel) (by decide +kernel)) wy_X8_thrown) rfl ⟨wd_X8_thrown, by decide, by decide⟩ (by decide) (fun _ => rfl) rfl (Nat.le_of_ble_eq_true rfl) rfl (k_X8_thrown ?_)
  rw [show stM M2 S2 30 0 4 = (o.1 : Int) by rw [stM_k (by decide)]; exact ht]
  refine xs_iload_5 eL_law_1834 ?_
  refine xa_icmp_eq (tgt := 1841) eL_law_1836 (by decide) (by omega) (by omega) (fun c1836 => ?_) (fun c1836 => ?_)
  · refine xs_iload_5 eL_law_1841 ?_
    refine xa_if_ne (tgt := 1858) eL_law_1843 (by decide) (by omega) (fun c1843 => ?_) (fun c1843 => ?_)
    · refine xa_goto (tgt := 2358) eL_law_1858 (by decide) ?_
      exact hk _ _ _ _ _ _ _ _ (h.step io hS1 hf hrel)
    · refine xs_aload_3 eL_law_1846 ?_
      refine xa_iconst eL_law_1847 ?_
      refine gar_42 eL_law_1848 (by decide) (fun r9 => ?_)
      refine xs_iload_6 eL_law_1849 ?_
      refine xa_i2lw eL_law_1851 ?_
      refine xa_lcmp eL_law_1852 r9 (wr_64 _) ?_
      refine xa_ifc_eq (tgt := 1858) eL_law_1853 (by decide) (fun c1853 => ?_) (fun c1853 => ?_)
      · refine xa_goto (tgt := 2358) eL_law_1858 (by decide) ?_
        exact hk _ _ _ _ _ _ _ _ (h.step io hS1 hf hrel)
      · exact absurd (by show stM M2 S2 42 0 0 = wr r; rw [(show stM M2 S2 42 0 0 = wr o.2.1 by rw [stM_k (by decide), hf.1 42 0 (by omega)]; exact hS1.val (by omega)), hr (by omega)]) c1853
  · exact absurd rfl c1836
set_option maxHeartbeats 400000 in
theorem c_run {w : xW} {TG : xT} {k n nn N c : Nat} {i T : Int} {l5 l6 l7 l8 : xV} {S : xS} (h : INV T nn N c S) (hT : 0 ≤ T ∧ T ≤ 790000) (hi : 0 ≤ i ∧ i + 4 < (w.2.2.2.2.2.1 : Int)) (hN : w.2.2.2.2.2.1 < 2147483648) (hk : ∀ (n' N' c' : Nat) (S' : xS) (l5 l6 l7 l8 : xV), INV (T + 1500) n' N' c' S' → X w mL_law TG k n 2358 [xp 52 0, xp 0 0, xp 30 0, xp 42 0, xi i, l5, l6, l7, l8] [] S') : X w mL_law TG (k + 1) (n + 6) 1875 [xp 52 0, xp 0 0, xp 30 0, xp 42 0, xi i, l5, l6, l7, l8] [] S := by
  refine xs_aload_1 eL_law_1875 ?_
  refine xs_aload_0 eL_law_1876 ?_
  refine xs_iload_4 eL_law_1877 ?_
  refine xa_iconst eL_law_1879 ?_
  refine xa_iadd eL_law_1880 ?_
  refine xa_sld eL_law_1881 (by omega) hN ?_
  refine xs_aload_3 eL_law_1882 ?_
  refine xbi_H3 (mi' := mL_run) (y := yL_run) (k1 := 1) (n1 := 6) eL_law_1883 (zw_4 (xtb_in (i := 1000) (by decide +kernel) (by decide +kernel)) wy_L_run.1 li_RL wy_L_run.2.2) rfl ⟨wd_L_run, by decide, by decide⟩ (by omega) (w_run h.1 (by omega) (xs_r _) (fun S1 hS1 => ?_))
  have io := i_run (m := (w.2.2.2.2.2.2 (i + 1).toNat).toInt) h.1 h.2.1 (T := T) (by omega)
  have ht3 := t_run (m := (w.2.2.2.2.2.2 (i + 1).toNat).toInt) (n := nn) (N := N) (C := S)
  have hR1 : Rel 0 nn N S (S1 31 0) := by rw [hS1.m io.2.2 (by decide) (by unfold sct; omega) (by omega) (by omega) (by omega) (by omega) (by omega) (by omega)]; exact h.2.2.1
  generalize ho : (o_run (w.2.2.2.2.2.2 (i + 1).toNat).toInt nn N S) = o at hS1 io ht3
  refine xs_istore_5 eL_law_1886 rfl ?_
  refine xs_aload_2 eL_law_1888 ?_
  refine xs_aload_0 eL_law_1889 ?_
  refine xs_iload_4 eL_law_1890 ?_
  refine xa_iconst eL_law_1892 ?_
  refine xa_iadd eL_law_1893 ?_
  refine xa_sld eL_law_1894 (by omega) hN ?_
  refine X_store (stM_self S1).symm ?_
  refine xbi_V10 (mi' := mX8_run) (y := yX8_run) eL_law_1895 (xw_5 (xtb_in (i := 1501) (by decide +kernel) (by decide +kernel)) wy_X8_run) rfl ⟨wd_X8_run, by decide, by decide⟩ (by decide) (fun _ => rfl) rfl (Nat.le_of_ble_eq_true rfl) rfl (G_run h.1 (by omega) hR1 (xs_r _) (fun r S2 M2 hr hf ht hrel => ?_))
  rw [ho] at hr ht hrel
  refine xs_istore_6 eL_law_1898 rfl ?_
  refine xs_aload_2 eL_law_1900 ?_
  refine xbi_V00 (mi' := mX8_thrown) (y := yX8_thrown) eL_law_1901 (xw_5 (xtb_in (i := 1188) (by decide +kernel) (by decide +kernel)) wy_X8_thrown) rfl ⟨wd_X8_thrown, by decide, by decide⟩ (by decide) (fun _ => rfl) rfl (Nat.le_of_ble_eq_true rfl) rfl (k_X8_thrown ?_)
  rw [show stM M2 S2 30 0 4 = (o.1 : Int) by rw [stM_k (by decide)]; exact ht]
  refine xs_iload_5 eL_law_1904 ?_
  refine xa_icmp_eq (tgt := 1911) eL_law_1906 (by decide) (by omega) (by omega) (fun c1906 => ?_) (fun c1906 => ?_)
  · refine xs_iload_5 eL_law_1911 ?_
    refine xa_if_ne (tgt := 1928) eL_law_1913 (by decide) (by omega) (fun c1913 => ?_) (fun c1913 => ?_)
    · refine xa_goto (tgt := 2358) eL_law_1928 (by decide) ?_
      exact hk _ _ _ _ _ _ _ _ (h.step io hS1 hf hrel)
    · refine xs_aload_3 eL_law_1916 ?_
      refine xa_iconst eL_law_1917 ?_
      refine gar_42 eL_law_1918 (by decide) (fun r9 => ?_)
      refine xs_iload_6 eL_law_1919 ?_
      refine xa_i2lw eL_law_1921 ?_
      refine xa_lcmp eL_law_1922 r9 (wr_64 _) ?_
      refine xa_ifc_eq (tgt := 1928) eL_law_1923 (by decide) (fun c1923 => ?_) (fun c1923 => ?_)
      · refine xa_goto (tgt := 2358) eL_law_1928 (by decide) ?_
        exact hk _ _ _ _ _ _ _ _ (h.step io hS1 hf hrel)
      · exact absurd (by show stM M2 S2 42 0 0 = wr r; rw [(show stM M2 S2 42 0 0 = wr o.2.1 by rw [stM_k (by decide), hf.1 42 0 (by omega)]; exact hS1.val (by omega)), hr (by omega)]) c1923
  · exact absurd rfl c1906
set_option maxHeartbeats 400000 in
theorem c_ticksToFinish {w : xW} {TG : xT} {k n nn N c : Nat} {i T : Int} {l5 l6 l7 l8 : xV} {S : xS} (h : INV T nn N c S) (hT : 0 ≤ T ∧ T ≤ 790000) (hi : 0 ≤ i ∧ i + 4 < (w.2.2.2.2.2.1 : Int)) (hN : w.2.2.2.2.2.1 < 2147483648) (hk : ∀ (n' N' c' : Nat) (S' : xS) (l5 l6 l7 l8 : xV), INV (T + 1500) n' N' c' S' → X w mL_law TG k n 2358 [xp 52 0, xp 0 0, xp 30 0, xp 42 0, xi i, l5, l6, l7, l8] [] S') : X w mL_law TG (k + 1) (n + 6) 1931 [xp 52 0, xp 0 0, xp 30 0, xp 42 0, xi i, l5, l6, l7, l8] [] S := by
  refine xs_aload_1 eL_law_1931 ?_
  refine xs_aload_0 eL_law_1932 ?_
  refine xs_iload_4 eL_law_1933 ?_
  refine xa_iconst eL_law_1935 ?_
  refine xa_iadd eL_law_1936 ?_
  refine xa_sld eL_law_1937 (by omega) hN ?_
  refine xs_aload_0 eL_law_1938 ?_
  refine xs_iload_4 eL_law_1939 ?_
  refine xa_iconst eL_law_1941 ?_
  refine xa_iadd eL_law_1942 ?_
  refine xa_sld eL_law_1943 (by omega) hN ?_
  refine xs_aload_3 eL_law_1944 ?_
  refine xbi_H4 (mi' := mL_ticksToFinish) (y := yL_ticksToFinish) (k1 := 1) (n1 := 6) eL_law_1945 (zw_4 (xtb_in (i := 1051) (by decide +kernel) (by decide +kernel)) wy_L_ticksToFinish.1 li_RL wy_L_ticksToFinish.2.2) rfl ⟨wd_L_ticksToFinish, by decide, by decide⟩ (by omega) (w_ticksToFinish h.1 (by omega) (xs_r _) (xs_r _) (fun S1 hS1 => ?_))
  have io := i_ticksToFinish (q := (w.2.2.2.2.2.2 (i + 1).toNat).toInt) (m := (w.2.2.2.2.2.2 (i + 2).toNat).toInt) h.1 h.2.1 (T := T) (by omega)
  have ht3 := t_ticksToFinish (q := (w.2.2.2.2.2.2 (i + 1).toNat).toInt) (m := (w.2.2.2.2.2.2 (i + 2).toNat).toInt) (n := nn) (N := N) (C := S)
  have hR1 : Rel 0 nn N S (S1 31 0) := by rw [hS1.m io.2.2 (by decide) (by unfold sct; omega) (by omega) (by omega) (by omega) (by omega) (by omega) (by omega)]; exact h.2.2.1
  generalize ho : (o_ticksToFinish (w.2.2.2.2.2.2 (i + 1).toNat).toInt (w.2.2.2.2.2.2 (i + 2).toNat).toInt nn N S) = o at hS1 io ht3
  refine xs_istore_5 eL_law_1948 rfl ?_
  refine xs_aload_2 eL_law_1950 ?_
  refine xs_aload_0 eL_law_1951 ?_
  refine xs_iload_4 eL_law_1952 ?_
  refine xa_iconst eL_law_1954 ?_
  refine xa_iadd eL_law_1955 ?_
  refine xa_sld eL_law_1956 (by omega) hN ?_
  refine xs_aload_0 eL_law_1957 ?_
  refine xs_iload_4 eL_law_1958 ?_
  refine xa_iconst eL_law_1960 ?_
  refine xa_iadd eL_law_1961 ?_
  refine xa_sld eL_law_1962 (by omega) hN ?_
  refine X_store (stM_self S1).symm ?_
  refine xbi_V20 (mi' := mX8_ticksToFinish) (y := yX8_ticksToFinish) eL_law_1963 (xw_5 (xtb_in (i := 1506) (by decide +kernel) (by decide +kernel)) wy_X8_ticksToFinish) rfl ⟨wd_X8_ticksToFinish, by decide, by decide⟩ (by decide) (fun _ => rfl) rfl (Nat.le_of_ble_eq_true rfl) rfl (G_ticksToFinish h.1 (by omega) hR1 (xs_r _) (xs_r _) (fun r S2 M2 hr hf ht hrel => ?_))
  rw [ho] at hr ht hrel
  refine xs_istore_6 eL_law_1966 rfl ?_
  refine xs_aload_2 eL_law_1968 ?_
  refine xbi_V00 (mi' := mX8_thrown) (y := yX8_thrown) eL_law_1969 (xw_5 (xtb_in (i := 1188) (by decide +kernel) (by decide +kernel)) wy_X8_thrown) rfl ⟨wd_X8_thrown, by decide, by decide⟩ (by decide) (fun _ => rfl) rfl (Nat.le_of_ble_eq_true rfl) rfl (k_X8_thrown ?_)
  rw [show stM M2 S2 30 0 4 = (o.1 : Int) by rw [stM_k (by decide)]; exact ht]
  refine xs_iload_5 eL_law_1972 ?_
  refine xa_icmp_eq (tgt := 1979) eL_law_1974 (by decide) (by omega) (by omega) (fun c1974 => ?_) (fun c1974 => ?_)
  · refine xs_iload_5 eL_law_1979 ?_
    refine xa_if_ne (tgt := 1996) eL_law_1981 (by decide) (by omega) (fun c1981 => ?_) (fun c1981 => ?_)
    · refine xa_goto (tgt := 2358) eL_law_1996 (by decide) ?_
      exact hk _ _ _ _ _ _ _ _ (h.step io hS1 hf hrel)
    · refine xs_aload_3 eL_law_1984 ?_
      refine xa_iconst eL_law_1985 ?_
      refine gar_42 eL_law_1986 (by decide) (fun r9 => ?_)
      refine xs_iload_6 eL_law_1987 ?_
      refine xa_i2lw eL_law_1989 ?_
      refine xa_lcmp eL_law_1990 r9 (wr_64 _) ?_
      refine xa_ifc_eq (tgt := 1996) eL_law_1991 (by decide) (fun c1991 => ?_) (fun c1991 => ?_)
      · refine xa_goto (tgt := 2358) eL_law_1996 (by decide) ?_
        exact hk _ _ _ _ _ _ _ _ (h.step io hS1 hf hrel)
      · exact absurd (by show stM M2 S2 42 0 0 = wr r; rw [(show stM M2 S2 42 0 0 = wr o.2.1 by rw [stM_k (by decide), hf.1 42 0 (by omega)]; exact hS1.val (by omega)), hr (by omega)]) c1991
  · exact absurd rfl c1974
set_option maxHeartbeats 400000 in
theorem c_moneyAfter {w : xW} {TG : xT} {k n nn N c : Nat} {i T : Int} {l5 l6 l7 l8 : xV} {S : xS} (h : INV T nn N c S) (hT : 0 ≤ T ∧ T ≤ 790000) (hi : 0 ≤ i ∧ i + 4 < (w.2.2.2.2.2.1 : Int)) (hN : w.2.2.2.2.2.1 < 2147483648) (hk : ∀ (n' N' c' : Nat) (S' : xS) (l5 l6 l7 l8 : xV), INV (T + 1500) n' N' c' S' → X w mL_law TG k n 2358 [xp 52 0, xp 0 0, xp 30 0, xp 42 0, xi i, l5, l6, l7, l8] [] S') : X w mL_law TG (k + 1) (n + 6) 1999 [xp 52 0, xp 0 0, xp 30 0, xp 42 0, xi i, l5, l6, l7, l8] [] S := by
  refine xs_aload_1 eL_law_1999 ?_
  refine xs_aload_0 eL_law_2000 ?_
  refine xs_iload_4 eL_law_2001 ?_
  refine xa_iconst eL_law_2003 ?_
  refine xa_iadd eL_law_2004 ?_
  refine xa_sld eL_law_2005 (by omega) hN ?_
  refine xs_aload_0 eL_law_2006 ?_
  refine xs_iload_4 eL_law_2007 ?_
  refine xa_iconst eL_law_2009 ?_
  refine xa_iadd eL_law_2010 ?_
  refine xa_sld eL_law_2011 (by omega) hN ?_
  refine xs_aload_3 eL_law_2012 ?_
  refine xbi_H4 (mi' := mL_moneyAfter) (y := yL_moneyAfter) (k1 := 1) (n1 := 6) eL_law_2013 (zw_4 (xtb_in (i := 1058) (by decide +kernel) (by decide +kernel)) wy_L_moneyAfter.1 li_RL wy_L_moneyAfter.2.2) rfl ⟨wd_L_moneyAfter, by decide, by decide⟩ (by omega) (w_moneyAfter h.1 (by omega) (xs_r _) (xs_r _) (fun S1 hS1 => ?_))
  have io := i_moneyAfter (q := (w.2.2.2.2.2.2 (i + 1).toNat).toInt) (m := (w.2.2.2.2.2.2 (i + 2).toNat).toInt) h.1 h.2.1 (T := T) (by omega)
  have ht3 := t_moneyAfter (q := (w.2.2.2.2.2.2 (i + 1).toNat).toInt) (m := (w.2.2.2.2.2.2 (i + 2).toNat).toInt) (n := nn) (N := N) (C := S)
  have hR1 : Rel 0 nn N S (S1 31 0) := by rw [hS1.m io.2.2 (by decide) (by unfold sct; omega) (by omega) (by omega) (by omega) (by omega) (by omega) (by omega)]; exact h.2.2.1
  generalize ho : (o_moneyAfter (w.2.2.2.2.2.2 (i + 1).toNat).toInt (w.2.2.2.2.2.2 (i + 2).toNat).toInt nn N S) = o at hS1 io ht3
  refine xs_istore_5 eL_law_2016 rfl ?_
  refine xs_aload_2 eL_law_2018 ?_
  refine xs_aload_0 eL_law_2019 ?_
  refine xs_iload_4 eL_law_2020 ?_
  refine xa_iconst eL_law_2022 ?_
  refine xa_iadd eL_law_2023 ?_
  refine xa_sld eL_law_2024 (by omega) hN ?_
  refine xs_aload_0 eL_law_2025 ?_
  refine xs_iload_4 eL_law_2026 ?_
  refine xa_iconst eL_law_2028 ?_
  refine xa_iadd eL_law_2029 ?_
  refine xa_sld eL_law_2030 (by omega) hN ?_
  refine X_store (stM_self S1).symm ?_
  refine xbi_V20 (mi' := mX8_moneyAfter) (y := yX8_moneyAfter) eL_law_2031 (xw_5 (xtb_in (i := 1510) (by decide +kernel) (by decide +kernel)) wy_X8_moneyAfter) rfl ⟨wd_X8_moneyAfter, by decide, by decide⟩ (by decide) (fun _ => rfl) rfl (Nat.le_of_ble_eq_true rfl) rfl (G_moneyAfter h.1 (by omega) hR1 (xs_r _) (xs_r _) (fun r S2 M2 hr hf ht hrel => ?_))
  rw [ho] at hr ht hrel
  refine xs_istore_6 eL_law_2034 rfl ?_
  refine xs_aload_2 eL_law_2036 ?_
  refine xbi_V00 (mi' := mX8_thrown) (y := yX8_thrown) eL_law_2037 (xw_5 (xtb_in (i := 1188) (by decide +kernel) (by decide +kernel)) wy_X8_thrown) rfl ⟨wd_X8_thrown, by decide, by decide⟩ (by decide) (fun _ => rfl) rfl (Nat.le_of_ble_eq_true rfl) rfl (k_X8_thrown ?_)
  rw [show stM M2 S2 30 0 4 = (o.1 : Int) by rw [stM_k (by decide)]; exact ht]
  refine xs_iload_5 eL_law_2040 ?_
  refine xa_icmp_eq (tgt := 2047) eL_law_2042 (by decide) (by omega) (by omega) (fun c2042 => ?_) (fun c2042 => ?_)
  · refine xs_iload_5 eL_law_2047 ?_
    refine xa_if_ne (tgt := 2064) eL_law_2049 (by decide) (by omega) (fun c2049 => ?_) (fun c2049 => ?_)
    · refine xa_goto (tgt := 2358) eL_law_2064 (by decide) ?_
      exact hk _ _ _ _ _ _ _ _ (h.step io hS1 hf hrel)
    · refine xs_aload_3 eL_law_2052 ?_
      refine xa_iconst eL_law_2053 ?_
      refine gar_42 eL_law_2054 (by decide) (fun r9 => ?_)
      refine xs_iload_6 eL_law_2055 ?_
      refine xa_i2lw eL_law_2057 ?_
      refine xa_lcmp eL_law_2058 r9 (wr_64 _) ?_
      refine xa_ifc_eq (tgt := 2064) eL_law_2059 (by decide) (fun c2059 => ?_) (fun c2059 => ?_)
      · refine xa_goto (tgt := 2358) eL_law_2064 (by decide) ?_
        exact hk _ _ _ _ _ _ _ _ (h.step io hS1 hf hrel)
      · exact absurd (by show stM M2 S2 42 0 0 = wr r; rw [(show stM M2 S2 42 0 0 = wr o.2.1 by rw [stM_k (by decide), hf.1 42 0 (by omega)]; exact hS1.val (by omega)), hr (by omega)]) c2059
  · exact absurd rfl c2042
set_option maxHeartbeats 400000 in
theorem c_bestBid {w : xW} {TG : xT} {k n nn N c : Nat} {i T : Int} {l5 l6 l7 l8 : xV} {S : xS} (h : INV T nn N c S) (hT : 0 ≤ T ∧ T ≤ 790000) (hi : 0 ≤ i ∧ i + 4 < (w.2.2.2.2.2.1 : Int)) (hN : w.2.2.2.2.2.1 < 2147483648) (hk : ∀ (n' N' c' : Nat) (S' : xS) (l5 l6 l7 l8 : xV), INV (T + 1500) n' N' c' S' → X w mL_law TG k n 2358 [xp 52 0, xp 0 0, xp 30 0, xp 42 0, xi i, l5, l6, l7, l8] [] S') : X w mL_law TG (k + 1) (n + 6) 2067 [xp 52 0, xp 0 0, xp 30 0, xp 42 0, xi i, l5, l6, l7, l8] [] S := by
  refine xs_aload_1 eL_law_2067 ?_
  refine xs_aload_0 eL_law_2068 ?_
  refine xs_iload_4 eL_law_2069 ?_
  refine xa_iconst eL_law_2071 ?_
  refine xa_iadd eL_law_2072 ?_
  refine xa_sld eL_law_2073 (by omega) hN ?_
  refine xs_aload_0 eL_law_2074 ?_
  refine xs_iload_4 eL_law_2075 ?_
  refine xa_iconst eL_law_2077 ?_
  refine xa_iadd eL_law_2078 ?_
  refine xa_sld eL_law_2079 (by omega) hN ?_
  refine xs_aload_3 eL_law_2080 ?_
  refine xbi_H4 (mi' := mL_bestBid) (y := yL_bestBid) (k1 := 1) (n1 := 6) eL_law_2081 (zw_4 (xtb_in (i := 1065) (by decide +kernel) (by decide +kernel)) wy_L_bestBid.1 li_RL wy_L_bestBid.2.2) rfl ⟨wd_L_bestBid, by decide, by decide⟩ (by omega) (w_bestBid h.1 (by omega) (xs_r _) (xs_r _) (fun S1 hS1 => ?_))
  have io := i_bestBid (q := (w.2.2.2.2.2.2 (i + 1).toNat).toInt) (m := (w.2.2.2.2.2.2 (i + 2).toNat).toInt) h.1 h.2.1 (T := T) (by omega)
  have ht3 := t_bestBid (q := (w.2.2.2.2.2.2 (i + 1).toNat).toInt) (m := (w.2.2.2.2.2.2 (i + 2).toNat).toInt) (n := nn) (N := N) (C := S)
  have hR1 : Rel 0 nn N S (S1 31 0) := by rw [hS1.m io.2.2 (by decide) (by unfold sct; omega) (by omega) (by omega) (by omega) (by omega) (by omega) (by omega)]; exact h.2.2.1
  generalize ho : (o_bestBid (w.2.2.2.2.2.2 (i + 1).toNat).toInt (w.2.2.2.2.2.2 (i + 2).toNat).toInt nn N S) = o at hS1 io ht3
  refine xs_istore_5 eL_law_2084 rfl ?_
  refine xs_aload_2 eL_law_2086 ?_
  refine xs_aload_0 eL_law_2087 ?_
  refine xs_iload_4 eL_law_2088 ?_
  refine xa_iconst eL_law_2090 ?_
  refine xa_iadd eL_law_2091 ?_
  refine xa_sld eL_law_2092 (by omega) hN ?_
  refine xs_aload_0 eL_law_2093 ?_
  refine xs_iload_4 eL_law_2094 ?_
  refine xa_iconst eL_law_2096 ?_
  refine xa_iadd eL_law_2097 ?_
  refine xa_sld eL_law_2098 (by omega) hN ?_
  refine X_store (stM_self S1).symm ?_
  refine xbi_V20 (mi' := mX8_bestBid) (y := yX8_bestBid) eL_law_2099 (xw_5 (xtb_in (i := 1514) (by decide +kernel) (by decide +kernel)) wy_X8_bestBid) rfl ⟨wd_X8_bestBid, by decide, by decide⟩ (by decide) (fun _ => rfl) rfl (Nat.le_of_ble_eq_true rfl) rfl (G_bestBid h.1 (by omega) hR1 (xs_r _) (xs_r _) (fun r S2 M2 hr hf ht hrel => ?_))
  rw [ho] at hr ht hrel
  refine xs_istore_6 eL_law_2102 rfl ?_
  refine xs_aload_2 eL_law_2104 ?_
  refine xbi_V00 (mi' := mX8_thrown) (y := yX8_thrown) eL_law_2105 (xw_5 (xtb_in (i := 1188) (by decide +kernel) (by decide +kernel)) wy_X8_thrown) rfl ⟨wd_X8_thrown, by decide, by decide⟩ (by decide) (fun _ => rfl) rfl (Nat.le_of_ble_eq_true rfl) rfl (k_X8_thrown ?_)
  rw [show stM M2 S2 30 0 4 = (o.1 : Int) by rw [stM_k (by decide)]; exact ht]
  refine xs_iload_5 eL_law_2108 ?_
  refine xa_icmp_eq (tgt := 2115) eL_law_2110 (by decide) (by omega) (by omega) (fun c2110 => ?_) (fun c2110 => ?_)
  · refine xs_iload_5 eL_law_2115 ?_
    refine xa_if_ne (tgt := 2132) eL_law_2117 (by decide) (by omega) (fun c2117 => ?_) (fun c2117 => ?_)
    · refine xa_goto (tgt := 2358) eL_law_2132 (by decide) ?_
      exact hk _ _ _ _ _ _ _ _ (h.step io hS1 hf hrel)
    · refine xs_aload_3 eL_law_2120 ?_
      refine xa_iconst eL_law_2121 ?_
      refine gar_42 eL_law_2122 (by decide) (fun r9 => ?_)
      refine xs_iload_6 eL_law_2123 ?_
      refine xa_i2lw eL_law_2125 ?_
      refine xa_lcmp eL_law_2126 r9 (wr_64 _) ?_
      refine xa_ifc_eq (tgt := 2132) eL_law_2127 (by decide) (fun c2127 => ?_) (fun c2127 => ?_)
      · refine xa_goto (tgt := 2358) eL_law_2132 (by decide) ?_
        exact hk _ _ _ _ _ _ _ _ (h.step io hS1 hf hrel)
      · exact absurd (by show stM M2 S2 42 0 0 = wr r; rw [(show stM M2 S2 42 0 0 = wr o.2.1 by rw [stM_k (by decide), hf.1 42 0 (by omega)]; exact hS1.val (by omega)), hr (by omega)]) c2127
  · exact absurd rfl c2110
