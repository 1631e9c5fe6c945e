/-! the law: states saved and restored -/
/-! the law: states saved and restored -/
theorem INV.save {T : Int} {n N c j : Nat} {S : xS} (h : INV T n N c S) (hj : j < 2) : INV T n N c (up (cpA 31 0 33 (527 * j) 527 (up (up (cpyS 0 (2 + j) n N S) 21 0 j 1) 30 0 4 0)) 34 0 j 1) := by
  have fx := cpyS_fr (u := 0) (s := 2 + j) (n := n) (N := N) (S := S) h.1.2.2.1 (by have := h.1.2.1; omega)
  generalize hD : up (cpA 31 0 33 (527 * j) 527 (up (up (cpyS 0 (2 + j) n N S) 21 0 j 1) 30 0 4 0)) 34 0 j 1 = D
  have k0 : ∀ x y, x ≠ 30 → x ≠ 33 → x ≠ 34 → x ≠ 21 → D x y = cpyS 0 (2 + j) n N S x y := fun x y a1 a2 a3 a4 => by rw [← hD, up_oth (by omega), cpA_o a2, up_oth (by omega), up_oth (by omega)]
  have k1 : ∀ x y, x ≠ 30 → x ≠ 33 → x ≠ 34 → x ≠ 21 → ¬ (x = 1 ∧ y = 2 + j) → ¬ (x = 2 ∧ y = 2 + j) → ¬ (x = 4 ∧ 8 * (2 + j) ≤ y ∧ y < 8 * (2 + j) + 8) → ¬ (x = 5 ∧ y = 2 + j) → ¬ (x = 10 ∧ 32 * (2 + j) ≤ y ∧ y < 32 * (2 + j) + 32) → ¬ (x = 25 ∧ y = 2 + j) → D x y = S x y := fun x y a1 a2 a3 a4 b1 b2 b3 b4 b5 b6 => (k0 x y a1 a2 a3 a4).trans (fx x y b1 b2 b3 b4 b5 b6)
  have e21 : ∀ i, D 21 0 i = if i = j then 1 else S 21 0 i := fun i => by
    rw [← hD, up_k (by decide), cpA_o (by decide), up_k (by decide)]
    by_cases q : i = j
    · subst q; rw [up_same, if_pos rfl]
    · rw [up_f q, if_neg q, fx 21 0 (by omega) (by omega) (by omega) (by omega) (by omega) (by omega)]
  have e34 : ∀ i, D 34 0 i = if i = j then 1 else S 34 0 i := fun i => by
    rw [← hD]
    by_cases q : i = j
    · subst q; rw [up_same, if_pos rfl]
    · rw [up_f q, if_neg q, cpA_o (by decide), up_k (by decide), up_k (by decide), fx 34 0 (by omega) (by omega) (by omega) (by omega) (by omega) (by omega)]
  have e33 : ∀ f, D 33 0 f = if 527 * j ≤ f ∧ f < 527 * j + 527 then S 31 0 (f - 527 * j) else S 33 0 f := fun f => by
    rw [← hD, up_k (by decide)]
    unfold cpA
    by_cases q : 527 * j ≤ f ∧ f < 527 * j + 527
    · rw [if_pos ⟨rfl, rfl, q⟩, if_pos q, up_k (by decide), up_k (by decide), fx 31 0 (by omega) (by omega) (by omega) (by omega) (by omega) (by omega), Nat.zero_add]
    · rw [if_neg (fun z => q z.2.2), if_neg q, up_k (by decide), up_k (by decide), fx 33 0 (by omega) (by omega) (by omega) (by omega) (by omega) (by omega)]
  have e30 : ∀ g, g ≠ 4 → D 30 0 g = S 30 0 g := fun g hg => by rw [← hD, up_k (by decide), cpA_o (by decide), up_f hg, up_k (by decide), fx 30 0 (by omega) (by omega) (by omega) (by omega) (by omega) (by omega)]
  obtain ⟨hv, hf, hr, ⟨⟨t1, t2, t3, t4⟩, t5, t6, t7⟩, hs⟩ := h
  have c0 : ∀ x y, (x = 1 ∧ y = 0) ∨ (x = 2 ∧ y = 0) ∨ (x = 4 ∧ 8 * 0 ≤ y ∧ y < 8 * 0 + 8) ∨ (x = 5 ∧ y = 0) ∨ (x = 10 ∧ 32 * 0 ≤ y ∧ y < 32 * 0 + 32) ∨ (x = 25 ∧ y = 0) → D x y = S x y := fun x y q => k1 x y (by omega) (by omega) (by omega) (by omega) (by omega) (by omega) (by omega) (by omega) (by omega) (by omega)
  have e3 : D 3 0 = S 3 0 := k1 3 0 (by omega) (by omega) (by omega) (by omega) (by omega) (by omega) (by omega) (by omega) (by omega) (by omega)
  refine ⟨hv.cls c0, hf.of (c0 2 0 (by omega)) (fun i hi => c0 10 _ (by have := hv.2.1; omega)), ?_, ⟨⟨by rw [e30 14 (by decide)]; exact t1, by rw [e3]; exact t2, t3, ?_⟩, by rw [e30 20 (by decide), e3]; exact t5, by rw [e30 21 (by decide), e3]; exact t6, by rw [e3]; exact t7⟩, ?_⟩
  · rw [k1 31 0 (by omega) (by omega) (by omega) (by omega) (by omega) (by omega) (by omega) (by omega) (by omega) (by omega)]
    exact hr.cls hv.2.2.1 hv.2.1 c0
  · rw [k1 24 0 (by omega) (by omega) (by omega) (by omega) (by omega) (by omega) (by omega) (by omega) (by omega) (by omega), k1 41 0 (by omega) (by omega) (by omega) (by omega) (by omega) (by omega) (by omega) (by omega) (by omega) (by omega)]
    exact t4
  · intro i hi
    rw [e21 i, e34 i]
    by_cases q : i = j
    · subst q
      rw [if_pos rfl, if_pos rfl]
      refine ⟨Or.inr rfl, rfl, fun _ => ⟨n, N, ?_, ?_, ?_⟩⟩
      · exact (VS.cpy (by omega) hv).cls (fun x y a => k0 x y (by omega) (by omega) (by omega) (by omega))
      · exact (Fut.cpy (n := n) (by omega) hf).of (k0 2 _ (by omega) (by omega) (by omega) (by omega)) (fun _ _ => k0 10 _ (by omega) (by omega) (by omega) (by omega))
      · refine ((Rel.cpys (by omega) hr).cls hv.2.2.1 hv.2.1 (fun x y a => k0 x y (by omega) (by omega) (by omega) (by omega))).arr hv.2.1 (fun f hf => ?_)
        show D 33 0 (527 * i + f) = S 31 0 f
        rw [e33, if_pos (by omega), show 527 * i + f - 527 * i = f by omega]
    · rw [if_neg q, if_neg q]
      obtain ⟨h1, h2, h3⟩ := hs i hi
      refine ⟨h1, h2, fun z => ?_⟩
      obtain ⟨k, M, v, f, r⟩ := h3 z
      have ci : ∀ x y, (x = 1 ∧ y = 2 + i) ∨ (x = 2 ∧ y = 2 + i) ∨ (x = 4 ∧ 8 * (2 + i) ≤ y ∧ y < 8 * (2 + i) + 8) ∨ (x = 5 ∧ y = 2 + i) ∨ (x = 10 ∧ 32 * (2 + i) ≤ y ∧ y < 32 * (2 + i) + 32) ∨ (x = 25 ∧ y = 2 + i) → D x y = S x y := fun x y a => k1 x y (by omega) (by omega) (by omega) (by omega) (by omega) (by omega) (by omega) (by omega) (by omega) (by omega)
      refine ⟨k, M, v.cls ci, f.of (ci 2 (2 + i) (by omega)) (fun g hg => ci 10 _ (by have := v.2.1; omega)), (r.cls v.2.2.1 v.2.1 ci).arr v.2.1 (fun g hg => ?_)⟩
      show D 33 0 (527 * i + g) = S 33 0 (527 * i + g)
      rw [e33, if_neg (by omega)]
theorem INV.rest {T : Int} {n N c j k M : Nat} {S : xS} (h : INV T n N c S) (hj : j < 2) (v : VS (2 + j) k M T S) (f : Fut (2 + j) M S) (r : Rel (2 + j) k M S (fun f => S 33 0 (527 * j + f))) : INV T k M c (cpA 33 (527 * j) 31 0 527 (up (cpyS (2 + j) 0 k M S) 30 0 4 0)) := by
  have fx := cpyS_fr (u := 2 + j) (s := 0) (n := k) (N := M) (S := S) v.2.2.1 (by have := v.2.1; omega)
  generalize hD : cpA 33 (527 * j) 31 0 527 (up (cpyS (2 + j) 0 k M S) 30 0 4 0) = D
  have k0 : ∀ x y, x ≠ 30 → x ≠ 31 → D x y = cpyS (2 + j) 0 k M S x y := fun x y a1 a2 => by rw [← hD, cpA_o a2, up_oth (by omega)]
  have k1 : ∀ x y, x ≠ 30 → x ≠ 31 → ¬ (x = 1 ∧ y = 0) → ¬ (x = 2 ∧ y = 0) → ¬ (x = 4 ∧ 8 * 0 ≤ y ∧ y < 8 * 0 + 8) → ¬ (x = 5 ∧ y = 0) → ¬ (x = 10 ∧ 32 * 0 ≤ y ∧ y < 32 * 0 + 32) → ¬ (x = 25 ∧ y = 0) → D x y = S x y := fun x y a1 a2 b1 b2 b3 b4 b5 b6 => (k0 x y a1 a2).trans (fx x y b1 b2 b3 b4 b5 b6)
  have e31 : ∀ f, f < 527 → D 31 0 f = S 33 0 (527 * j + f) := fun f hf => by
    rw [← hD]
    unfold cpA
    rw [if_pos ⟨rfl, rfl, by omega, by omega⟩, up_k (by decide), fx 33 0 (by omega) (by omega) (by omega) (by omega) (by omega) (by omega), Nat.sub_zero]
  have e30 : ∀ g, g ≠ 4 → D 30 0 g = S 30 0 g := fun g hg => by rw [← hD, cpA_o (by decide), up_f hg, fx 30 0 (by omega) (by omega) (by omega) (by omega) (by omega) (by omega)]
  obtain ⟨hv, hf, hr, ⟨⟨t1, t2, t3, t4⟩, t5, t6, t7⟩, hs⟩ := h
  have e3 : D 3 0 = S 3 0 := k1 3 0 (by omega) (by omega) (by omega) (by omega) (by omega) (by omega) (by omega) (by omega)
  refine ⟨(VS.cpy (by omega) v).cls (fun x y a => k0 x y (by omega) (by omega)), (Fut.cpy (n := k) (by omega) f).of (k0 2 0 (by omega) (by omega)) (fun _ _ => k0 10 _ (by omega) (by omega)), ((Rel.cpys (by omega) r).cls v.2.2.1 v.2.1 (fun x y a => k0 x y (by omega) (by omega))).arr v.2.1 (fun g hg => e31 g hg), ⟨⟨by rw [e30 14 (by decide)]; exact t1, by rw [e3]; exact t2, t3, ?_⟩, by rw [e30 20 (by decide), e3]; exact t5, by rw [e30 21 (by decide), e3]; exact t6, by rw [e3]; exact t7⟩, hs.step (Int.le_refl _) (fun x y a => k1 x y (by omega) (by omega) (by omega) (by omega) (by omega) (by omega) (by omega) (by omega))⟩
  rw [k1 24 0 (by omega) (by omega) (by omega) (by omega) (by omega) (by omega) (by omega) (by omega), k1 41 0 (by omega) (by omega) (by omega) (by omega) (by omega) (by omega) (by omega) (by omega)]
  exact t4
set_option maxHeartbeats 400000 in
theorem w_save {w : xW} {S : xS} {B : String → xS → Prop} {A : Int → xS → Prop} {a : Int} {n N : Nat} {T : Int} (hV : VS 0 n N T S) (hT : T ≤ 1000000) (ya : xr a) (q1 : 0 ≤ a ∧ a < 2 → A 0 (up (cpyS 0 (2 + a.toNat) n N S) 21 0 a.toNat 1)) (q0 : ¬ (0 ≤ a ∧ a < 2) → A 1 S) : Ki w mL_save yL_save 1 6 [xp 0 0, xi a] S A B := by
  refine K.ofH rfl rfl rfl rfl (Nat.le_of_ble_eq_true rfl) rfl ?_
  refine xs_aload_0 eL_save_0 ?_
  refine xs_iload_1 eL_save_1 ?_
  refine xbv_V1 (mi' := mX7_save) (y := yX7_save) eL_save_2 (xw_5 lRL_106 wy_X7_save) rfl ⟨wd_X7_save, by decide, by decide⟩ (by decide) (fun _ => rfl) rfl (Nat.le_of_ble_eq_true rfl) rfl ⟨by decide, by decide⟩ (F_save hV hT ya (fun c9 => ?_) (fun c9 => ?_))
  · refine xa_goto (tgt := 11) eL_save_5 (by decide) ?_
    refine xa_iconst eL_save_11 ?_
    exact xa_iret eL_save_12 rfl ⟨_, rfl, q1 c9⟩
  · refine xt_c0 rfl rfl (by decide) (xtb_in (i := 713) (by decide +kernel) (by decide +kernel)) (List.mem_of_getElem? (i := 1) rfl) (fun q => ?_)
    refine xs_astoree_2 eL_save_8 rfl ?_
    refine xa_iconst eL_save_9 ?_
    exact xa_iret eL_save_10 rfl ⟨_, rfl, q0 c9⟩
set_option maxHeartbeats 400000 in
theorem c_save {w : xW} {TG : xT} {k n nn N c : Nat} {i T : Int} {l5 l6 l7 l8 : xV} {S : xS} (h : INV T nn N c S) (hT : 0 ≤ T ∧ T ≤ 790000) (hi : 0 ≤ i ∧ i + 4 < (w.2.2.2.2.2.1 : Int)) (hN : w.2.2.2.2.2.1 < 2147483648) (hk : ∀ (n' N' c' : Nat) (S' : xS) (l5 l6 l7 l8 : xV), INV (T + 1500) n' N' c' S' → X w mL_law TG k n 2358 [xp 52 0, xp 0 0, xp 30 0, xp 42 0, xi i, l5, l6, l7, l8] [] S') : X w mL_law TG (k + 1) (n + 6) 2286 [xp 52 0, xp 0 0, xp 30 0, xp 42 0, xi i, l5, l6, l7, l8] [] S := by
  have ya := xs_r (w.2.2.2.2.2.2 (i + 1).toNat)
  refine xs_aload_1 eL_law_2286 ?_
  refine xs_aload_0 eL_law_2287 ?_
  refine xs_iload_4 eL_law_2288 ?_
  refine xa_iconst eL_law_2290 ?_
  refine xa_iadd eL_law_2291 ?_
  refine xa_sld eL_law_2292 (by omega) hN ?_
  refine xbi_H2 (mi' := mL_save) (y := yL_save) (k1 := 1) (n1 := 6) eL_law_2293 (zw_4 (xtb_in (i := 1090) (by decide +kernel) (by decide +kernel)) wy_L_save.1 li_RL wy_L_save.2.2) rfl ⟨wd_L_save, by decide, by decide⟩ (by omega) (w_save h.1 (by omega) ya (fun c9 => ?_) (fun c9 => ?_))
  · generalize hV : (w.2.2.2.2.2.2 (i + 1).toNat).toInt = av at ya c9 ⊢
    refine xs_istore_5 eL_law_2296 rfl ?_
    refine xs_aload_2 eL_law_2298 ?_
    refine xs_aload_0 eL_law_2299 ?_
    refine xs_iload_4 eL_law_2300 ?_
    refine xa_iconst eL_law_2302 ?_
    refine xa_iadd eL_law_2303 ?_
    refine xa_sld eL_law_2304 (by omega) hN ?_
    refine xbv_V10 (mi' := mX8_save) (y := yX8_save) eL_law_2305 (xw_5 (xtb_in (i := 1604) (by decide +kernel) (by decide +kernel)) wy_X8_save) rfl ⟨wd_X8_save, by decide, by decide⟩ (by decide) (fun _ => rfl) rfl (Nat.le_of_ble_eq_true rfl) rfl (G_save (by rw [hV]; exact ya) (fun c8 => ?_) (fun c8 => ?_))
    · rw [hV]
      refine xs_aload_2 eL_law_2308 ?_
      refine xbi_V00 (mi' := mX8_thrown) (y := yX8_thrown) eL_law_2309 (xw_5 (xtb_in (i := 1188) (by decide +kernel) (by decide +kernel)) wy_X8_thrown) rfl ⟨wd_X8_thrown, by decide, by decide⟩ (by decide) (fun _ => rfl) rfl (Nat.le_of_ble_eq_true rfl) rfl (k_X8_thrown ?_)
      rw [show up (cpA 31 0 33 (527 * av.toNat) 527 (up (up (cpyS 0 (2 + av.toNat) nn N S) 21 0 av.toNat 1) 30 0 4 0)) 34 0 av.toNat 1 30 0 4 = (0 : Int) from by rw [up_k (by decide), cpA_o (by decide), up_same]]
      refine xs_iload_5 eL_law_2312 ?_
      refine xa_icmp_eq (tgt := 2319) eL_law_2314 (by decide) (by decide) (by decide) (fun c2314 => ?_) (fun c2314 => ?_)
      · refine xa_goto (tgt := 2358) eL_law_2319 (by decide) ?_
        exact X_room (hk _ _ _ _ _ _ _ _ ((h.save (by omega)).mono (by omega))) ⟨by omega, by omega⟩
      · exact absurd rfl c2314
    · exact absurd (by rw [hV]; exact c9) c8
  · refine xs_istore_5 eL_law_2296 rfl ?_
    refine xs_aload_2 eL_law_2298 ?_
    refine xs_aload_0 eL_law_2299 ?_
    refine xs_iload_4 eL_law_2300 ?_
    refine xa_iconst eL_law_2302 ?_
    refine xa_iadd eL_law_2303 ?_
    refine xa_sld eL_law_2304 (by omega) hN ?_
    refine xbv_V10 (mi' := mX8_save) (y := yX8_save) eL_law_2305 (xw_5 (xtb_in (i := 1604) (by decide +kernel) (by decide +kernel)) wy_X8_save) rfl ⟨wd_X8_save, by decide, by decide⟩ (by decide) (fun _ => rfl) rfl (Nat.le_of_ble_eq_true rfl) rfl (G_save ya (fun c8 => ?_) (fun c8 => ?_))
    · exact absurd c8 c9
    · refine xs_aload_2 eL_law_2308 ?_
      refine xbi_V00 (mi' := mX8_thrown) (y := yX8_thrown) eL_law_2309 (xw_5 (xtb_in (i := 1188) (by decide +kernel) (by decide +kernel)) wy_X8_thrown) rfl ⟨wd_X8_thrown, by decide, by decide⟩ (by decide) (fun _ => rfl) rfl (Nat.le_of_ble_eq_true rfl) rfl (k_X8_thrown ?_)
      rw [show up S 30 0 4 1 30 0 4 = (1 : Int) from up_same _ _ _ _ _]
      refine xs_iload_5 eL_law_2312 ?_
      refine xa_icmp_eq (tgt := 2319) eL_law_2314 (by decide) (by decide) (by decide) (fun c2314 => ?_) (fun c2314 => ?_)
      · refine xa_goto (tgt := 2358) eL_law_2319 (by decide) ?_
        exact X_room (hk _ _ _ _ _ _ _ _ ((h.mono (by omega)).eq (fun x a1 a2 => by funext y; exact up_oth (by omega)) (fun g hg => up_f (by omega)))) ⟨by omega, by omega⟩
      · exact absurd rfl c2314
set_option maxHeartbeats 400000 in
theorem w_restore {w : xW} {S : xS} {B : String → xS → Prop} {A : Int → xS → Prop} {a : Int} {T : Int} (hT : T ≤ 1000000) (ya : xr a) (h21 : ∀ j, j < 2 → S 21 0 j = 0 ∨ S 21 0 j = 1) (q1 : 0 ≤ a ∧ a < 2 → S 21 0 a.toNat = 1 → ∃ k N, VS (2 + a.toNat) k N T S ∧ A 0 (cpyS (2 + a.toNat) 0 k N S)) (q0 : ¬ (0 ≤ a ∧ a < 2) → A 1 S) (q2 : 0 ≤ a ∧ a < 2 → ¬ S 21 0 a.toNat = 1 → A 2 S) : Ki w mL_restore yL_restore 1 6 [xp 0 0, xi a] S A B := by
  refine K.ofH rfl rfl rfl rfl (Nat.le_of_ble_eq_true rfl) rfl ?_
  refine xs_aload_0 eL_restore_0 ?_
  refine xs_iload_1 eL_restore_1 ?_
  refine xbv_V1 (mi' := mX7_restore) (y := yX7_restore) eL_restore_2 (xw_5 lRL_110 wy_X7_restore) rfl ⟨wd_X7_restore, by decide, by decide⟩ (by decide) (fun _ => rfl) rfl (Nat.le_of_ble_eq_true rfl) rfl ⟨by decide, by decide⟩ (F_restore hT ya h21 (fun c9 d9 => ?_) (fun c9 => ?_) (fun c9 d9 => ?_))
  · obtain ⟨k9, N9, v9, q9⟩ := q1 c9 d9
    refine ⟨k9, N9, v9, ?_⟩
    refine xa_goto (tgt := 14) eL_restore_5 (by decide) ?_
    refine xa_iconst eL_restore_14 ?_
    exact xa_iret eL_restore_15 rfl ⟨_, rfl, q9⟩
  · refine xt_c0 rfl rfl (by decide) (xtb_in (i := 713) (by decide +kernel) (by decide +kernel)) (List.mem_of_getElem? (i := 1) rfl) (fun q => ?_)
    refine xs_astoree_2 eL_restore_8 rfl ?_
    refine xa_iconst eL_restore_9 ?_
    exact xa_iret eL_restore_10 rfl ⟨_, rfl, q0 c9⟩
  · refine xt_c1 rfl (by decide) (xtb_in (i := 713) (by decide +kernel) (by decide +kernel)) (List.mem_of_getElem? (i := 2) rfl) rfl (by decide) (xtb_in (i := 714) (by decide +kernel) (by decide +kernel)) (List.mem_of_getElem? (i := 2) rfl) (fun q => ?_)
    refine xs_astoree_2 eL_restore_11 rfl ?_
    refine xa_iconst eL_restore_12 ?_
    exact xa_iret eL_restore_13 rfl ⟨_, rfl, q2 c9 d9⟩
set_option maxHeartbeats 400000 in
theorem c_restore {w : xW} {TG : xT} {k n nn N c : Nat} {i T : Int} {l5 l6 l7 l8 : xV} {S : xS} (h : INV T nn N c S) (hT : 0 ≤ T ∧ T ≤ 790000) (hi : 0 ≤ i ∧ i + 4 < (w.2.2.2.2.2.1 : Int)) (hN : w.2.2.2.2.2.1 < 2147483648) (hk : ∀ (n' N' c' : Nat) (S' : xS) (l5 l6 l7 l8 : xV), INV (T + 1500) n' N' c' S' → X w mL_law TG k n 2358 [xp 52 0, xp 0 0, xp 30 0, xp 42 0, xi i, l5, l6, l7, l8] [] S') : X w mL_law TG (k + 1) (n + 6) 2322 [xp 52 0, xp 0 0, xp 30 0, xp 42 0, xi i, l5, l6, l7, l8] [] S := by
  have ya := xs_r (w.2.2.2.2.2.2 (i + 1).toNat)
  refine xs_aload_1 eL_law_2322 ?_
  refine xs_aload_0 eL_law_2323 ?_
  refine xs_iload_4 eL_law_2324 ?_
  refine xa_iconst eL_law_2326 ?_
  refine xa_iadd eL_law_2327 ?_
  refine xa_sld eL_law_2328 (by omega) hN ?_
  refine xbi_H2 (mi' := mL_restore) (y := yL_restore) (k1 := 1) (n1 := 6) eL_law_2329 (zw_4 (xtb_in (i := 1097) (by decide +kernel) (by decide +kernel)) wy_L_restore.1 li_RL wy_L_restore.2.2) rfl ⟨wd_L_restore, by decide, by decide⟩ (by omega) (w_restore (T := T) (by omega) ya (fun j hj => (h.2.2.2.2 j hj).1) (fun c9 d9 => ?_) (fun c9 => ?_) (fun c9 d9 => ?_))
  · generalize hV : (w.2.2.2.2.2.2 (i + 1).toNat).toInt = av at ya c9 d9 ⊢
    obtain ⟨b1, b2, b3⟩ := h.2.2.2.2 av.toNat (by omega)
    obtain ⟨k9, N9, v9, f9, r9⟩ := b3 d9
    refine ⟨k9, N9, v9, ?_⟩
    have e34 : cpyS (2 + av.toNat) 0 k9 N9 S 34 0 av.toNat = 1 := by rw [cpyS_fr v9.2.2.1 (by have := v9.2.1; omega) 34 0 (by omega) (by omega) (by omega) (by omega) (by omega) (by omega), b2]; exact d9
    refine xs_istore_5 eL_law_2332 rfl ?_
    refine xs_aload_2 eL_law_2334 ?_
    refine xs_aload_0 eL_law_2335 ?_
    refine xs_iload_4 eL_law_2336 ?_
    refine xa_iconst eL_law_2338 ?_
    refine xa_iadd eL_law_2339 ?_
    refine xa_sld eL_law_2340 (by omega) hN ?_
    refine xbv_V10 (mi' := mX8_restore) (y := yX8_restore) eL_law_2341 (xw_5 (xtb_in (i := 1608) (by decide +kernel) (by decide +kernel)) wy_X8_restore) rfl ⟨wd_X8_restore, by decide, by decide⟩ (by decide) (fun _ => rfl) rfl (Nat.le_of_ble_eq_true rfl) rfl (G_restore (by rw [hV]; exact ya) (fun c8 d8 => ?_) (fun c8 => ?_) (fun c8 d8 => ?_))
    · rw [hV]
      refine xs_aload_2 eL_law_2344 ?_
      refine xbi_V00 (mi' := mX8_thrown) (y := yX8_thrown) eL_law_2345 (xw_5 (xtb_in (i := 1188) (by decide +kernel) (by decide +kernel)) wy_X8_thrown) rfl ⟨wd_X8_thrown, by decide, by decide⟩ (by decide) (fun _ => rfl) rfl (Nat.le_of_ble_eq_true rfl) rfl (k_X8_thrown ?_)
      rw [show cpA 33 (527 * av.toNat) 31 0 527 (up (cpyS (2 + av.toNat) 0 k9 N9 S) 30 0 4 0) 30 0 4 = (0 : Int) from by rw [cpA_o (by decide), up_same]]
      refine xs_iload_5 eL_law_2348 ?_
      refine xa_icmp_eq (tgt := 2355) eL_law_2350 (by decide) (by decide) (by decide) (fun c2350 => ?_) (fun c2350 => ?_)
      · refine xa_goto (tgt := 2358) eL_law_2355 (by decide) ?_
        exact X_room (hk _ _ _ _ _ _ _ _ ((h.rest (by omega) v9 f9 r9).mono (by omega))) ⟨by omega, by omega⟩
      · exact absurd rfl c2350
    · exact absurd (by rw [hV]; exact c9) c8
    · exact absurd (by rw [hV] at d8; rw [e34] at d8; exact d8) (by decide)
  · refine xs_istore_5 eL_law_2332 rfl ?_
    refine xs_aload_2 eL_law_2334 ?_
    refine xs_aload_0 eL_law_2335 ?_
    refine xs_iload_4 eL_law_2336 ?_
    refine xa_iconst eL_law_2338 ?_
    refine xa_iadd eL_law_2339 ?_
    refine xa_sld eL_law_2340 (by omega) hN ?_
    refine xbv_V10 (mi' := mX8_restore) (y := yX8_restore) eL_law_2341 (xw_5 (xtb_in (i := 1608) (by decide +kernel) (by decide +kernel)) wy_X8_restore) rfl ⟨wd_X8_restore, by decide, by decide⟩ (by decide) (fun _ => rfl) rfl (Nat.le_of_ble_eq_true rfl) rfl (G_restore ya (fun c8 d8 => ?_) (fun c8 => ?_) (fun c8 d8 => ?_))
    · exact absurd c8 c9
    · refine xs_aload_2 eL_law_2344 ?_
      refine xbi_V00 (mi' := mX8_thrown) (y := yX8_thrown) eL_law_2345 (xw_5 (xtb_in (i := 1188) (by decide +kernel) (by decide +kernel)) wy_X8_thrown) rfl ⟨wd_X8_thrown, by decide, by decide⟩ (by decide) (fun _ => rfl) rfl (Nat.le_of_ble_eq_true rfl) rfl (k_X8_thrown ?_)
      rw [show up S 30 0 4 1 30 0 4 = (1 : Int) from up_same _ _ _ _ _]
      refine xs_iload_5 eL_law_2348 ?_
      refine xa_icmp_eq (tgt := 2355) eL_law_2350 (by decide) (by decide) (by decide) (fun c2350 => ?_) (fun c2350 => ?_)
      · refine xa_goto (tgt := 2358) eL_law_2355 (by decide) ?_
        exact X_room (hk _ _ _ _ _ _ _ _ ((h.mono (by omega)).eq (fun x a1 a2 => by funext y; exact up_oth (by omega)) (fun g hg => up_f (by omega)))) ⟨by omega, by omega⟩
      · exact absurd rfl c2350
    · exact absurd c8 c9
  · obtain ⟨b1, b2, -⟩ := h.2.2.2.2 ((w.2.2.2.2.2.2 (i + 1).toNat).toInt).toNat (by omega)
    refine xs_istore_5 eL_law_2332 rfl ?_
    refine xs_aload_2 eL_law_2334 ?_
    refine xs_aload_0 eL_law_2335 ?_
    refine xs_iload_4 eL_law_2336 ?_
    refine xa_iconst eL_law_2338 ?_
    refine xa_iadd eL_law_2339 ?_
    refine xa_sld eL_law_2340 (by omega) hN ?_
    refine xbv_V10 (mi' := mX8_restore) (y := yX8_restore) eL_law_2341 (xw_5 (xtb_in (i := 1608) (by decide +kernel) (by decide +kernel)) wy_X8_restore) rfl ⟨wd_X8_restore, by decide, by decide⟩ (by decide) (fun _ => rfl) rfl (Nat.le_of_ble_eq_true rfl) rfl (G_restore ya (fun c8 d8 => ?_) (fun c8 => ?_) (fun c8 d8 => ?_))
    · exact absurd (by rw [b2] at d8; omega) d9
    · exact absurd c9 c8
    · refine xs_aload_2 eL_law_2344 ?_
      refine xbi_V00 (mi' := mX8_thrown) (y := yX8_thrown) eL_law_2345 (xw_5 (xtb_in (i := 1188) (by decide +kernel) (by decide +kernel)) wy_X8_thrown) rfl ⟨wd_X8_thrown, by decide, by decide⟩ (by decide) (fun _ => rfl) rfl (Nat.le_of_ble_eq_true rfl) rfl (k_X8_thrown ?_)
      rw [show up S 30 0 4 2 30 0 4 = (2 : Int) from up_same _ _ _ _ _]
      refine xs_iload_5 eL_law_2348 ?_
      refine xa_icmp_eq (tgt := 2355) eL_law_2350 (by decide) (by decide) (by decide) (fun c2350 => ?_) (fun c2350 => ?_)
      · refine xa_goto (tgt := 2358) eL_law_2355 (by decide) ?_
        exact X_room (hk _ _ _ _ _ _ _ _ ((h.mono (by omega)).eq (fun x a1 a2 => by funext y; exact up_oth (by omega)) (fun g hg => up_f (by omega)))) ⟨by omega, by omega⟩
      · exact absurd rfl c2350
