/-! the law: predictions held against what comes -/
set_option maxHeartbeats 400000 in
theorem w_save {w : xW} {S C : xS} {B : String → xS → Prop} {A : Int → xS → Prop} {N : Nat} {T q : Int} (hB : BS q C S) (hV : VS 0 4 N T C) (hT : T ≤ 800000) (hq : ∀ S', BS q (up (cpyS 0 2 4 N S) 21 0 0 1) S' → A 0 S') : Ki w mL_save yL_save 1 6 [xp 0 0, xi 0] S A B := by
  have hS := hB.V hV
  have hN := hV.2.1
  have e30 : up (cpyS 0 2 4 N S) 21 0 0 1 30 0 = S 30 0 := by rw [up_oth (by omega)]; exact cpyS_fr (by decide) (by omega) 30 0 (by omega) (by omega) (by omega) (by omega) (by omega) (by omega)
  refine K.ofH rfl rfl rfl rfl (Nat.le_of_ble_eq_true rfl) rfl ?_
  refine xs_aload_0 eL_save_0 ?_
  refine xs_iload_1 eL_save_1 ?_
  refine xbv_V1 (mi' := mX7_save) (y := yX7_save) eL_save_2 (xw_5 lRL_135 wy_X7_save) rfl ⟨wd_X7_save, by decide, by decide⟩ (by decide) (fun _ => rfl) rfl (Nat.le_of_ble_eq_true rfl) rfl ⟨by decide, by decide⟩ (F_save hS (by omega) (by decide) (fun _ => ?_) (fun z => absurd ⟨by decide, by decide⟩ z))
  refine xa_iconst eL_save_5 ?_
  exact xa_iret eL_save_6 rfl ⟨_, rfl, hq _ (hB.nw e30 scr.rf)⟩
set_option maxHeartbeats 400000 in
theorem w_restore {w : xW} {S C : xS} {B : String → xS → Prop} {A : Int → xS → Prop} {N : Nat} {T q : Int} (hB : BS q C S) (hN : N ≤ 20) (hT : T ≤ 800000) (h2 : VS 2 4 N T S) (h1 : S 21 0 0 = 1) (h21 : ∀ j, j < 2 → S 21 0 j = 0 ∨ S 21 0 j = 1) (hq : ∀ S', BS q (cpyS 2 0 4 N S) S' → A 0 S') : Ki w mL_restore yL_restore 1 6 [xp 0 0, xi 0] S A B := by
  have e30 : cpyS 2 0 4 N S 30 0 = S 30 0 := cpyS_fr (by decide) (by omega) 30 0 (by omega) (by omega) (by omega) (by omega) (by omega) (by omega)
  refine K.ofH rfl rfl rfl rfl (Nat.le_of_ble_eq_true rfl) rfl ?_
  refine xs_aload_0 eL_restore_0 ?_
  refine xs_iload_1 eL_restore_1 ?_
  refine xbv_V1 (mi' := mX7_restore) (y := yX7_restore) eL_restore_2 (xw_5 lRL_139 wy_X7_restore) rfl ⟨wd_X7_restore, by decide, by decide⟩ (by decide) (fun _ => rfl) rfl (Nat.le_of_ble_eq_true rfl) rfl ⟨by decide, by decide⟩ (F_restore (T := T) (by omega) (by decide) h21 (fun _ _ => ⟨4, N, h2, ?_⟩) (fun z => absurd ⟨by decide, by decide⟩ z) (fun _ z => absurd h1 z))
  refine xa_iconst eL_restore_5 ?_
  exact xa_iret eL_restore_6 rfl ⟨_, rfl, hq _ (hB.nw e30 scr.rf)⟩
def duF (p n N : Nat) (C : xS) : Int := frs (fun i => decide (itr (tckS 0 4 N) i C 4 p 1 = 0)) (n + 1) 0
def waF (p b d : Int) (N : Nat) (C : xS) : Int := frs (fun i => accF 0 5 N p b d (itr (tckS 0 4 N) i C)) 121 0
theorem w_tf {w : xW} {S C : xS} {B : String → xS → Prop} {A : Int → xS → Prop} {N : Nat} {T q : Int} (hB : BS q C S) (hV : VS 0 4 N T C) (hT : T ≤ 800000) {p m : Nat} (hp : p < 4) (hm : 1 ≤ m ∧ m ≤ 500) (hq : ∀ S', BS q C S' → A (duF p m N C) S') : Ki w mL_ticksToFinish yL_ticksToFinish 0 0 [xp 0 0, xi (p : Int), xi (m : Int)] S A B :=
  w_ticksToFinish hB hV hT hp hm (fun S' h => by
    have e : frs (fun i => decide (itr (tckS 1 4 N) i (cpyS 0 1 4 N S) 4 (8 * 1 + p) 1 = 0)) (m + 1) 0 = duF p m N C := frs_cg _ _ (fun z _ _ => by rw [fc_eq hB hV hp (by decide)])
    rw [e]; exact hq S' h)
theorem w_ma {w : xW} {S C : xS} {B : String → xS → Prop} {A : Int → xS → Prop} {N : Nat} {T q : Int} (hB : BS q C S) (hV : VS 0 4 N T C) (hT : T ≤ 800000) {p m : Nat} (hp : p < 4) (hm : 1 ≤ m ∧ m ≤ 500) (hq : ∀ S', BS q C S' → A (itr (tckS 0 4 N) m C 4 p 0) S') : Ki w mL_moneyAfter yL_moneyAfter 0 0 [xp 0 0, xi (p : Int), xi (m : Int)] S A B :=
  w_moneyAfter hB hV hT hp hm (fun S' h => by rw [fc_eq hB hV hp (by decide)]; exact hq S' h)
theorem w_wf {w : xW} {S C : xS} {B : String → xS → Prop} {A : Int → xS → Prop} {N : Nat} {T q : Int} (hB : BS q C S) (hV : VS 0 4 N T C) (hT : T ≤ 800000) {p b d : Int} (hw : wshP p b d) (hq : ∀ S', BS q C S' → A (waF p b d N C) S') : Ki w mL_waitFor yL_waitFor 0 0 [xp 0 0, xi p, xi b, xi d] S A B :=
  w_waitFor hB hV hT hw (fun S' h => by
    have e : frs (fun i => accF 0 5 N p b d (itr (tckS 0 4 N) i S)) 121 0 = waF p b d N C := frs_cg _ _ (fun z _ _ => tlq.acc (((hB.sq0 hV.2.1).itr (by decide) hV z).tl))
    rw [e]; exact hq S' h)
theorem du_r {p n N : Nat} {C : xS} (h : n ≤ 60) : -1 ≤ duF p n N C ∧ duF p n N C ≤ 60 := by
  unfold duF
  rcases frs_r (g := fun i => decide (itr (tckS 0 4 N) i C 4 p 1 = 0)) (n + 1) 0 with e | ⟨z, e, h1, h2, h3⟩ <;> rw [e] <;> omega
theorem wa_r {p b d : Int} {N : Nat} {C : xS} : waF p b d N C = -1 ∨ ∃ z : Nat, waF p b d N C = (z : Int) ∧ z ≤ 120 ∧ accF 0 5 N p b d (itr (tckS 0 4 N) z C) = true := by
  unfold waF
  rcases frs_r (g := fun i => accF 0 5 N p b d (itr (tckS 0 4 N) i C)) 121 0 with e | ⟨z, e, h1, h2, h3⟩
  · exact Or.inl e
  · exact Or.inr ⟨z, e, by omega, h3⟩
theorem wa_0 {p b d : Int} {N : Nat} {C : xS} : waF p b d N C = 0 ↔ accF 0 5 N p b d C = true := frs_0 (g := fun i => accF 0 5 N p b d (itr (tckS 0 4 N) i C)) (k := 120)
theorem came_0 {p N : Nat} {C : xS} : duF p 0 N C = if C 4 p 1 = 0 then 0 else -1 := by
  show (if decide (C 4 p 1 = 0) = true then ((0 : Nat) : Int) else -1) = _
  by_cases c : C 4 p 1 = 0
  · rw [if_pos (decide_eq_true c), if_pos c]; rfl
  · rw [if_neg (fun z => c (of_decide_eq_true z)), if_neg c]
theorem came_s {p k N : Nat} {C : xS} : duF p (k + 1) N C = if duF p k N C < 0 ∧ itr (tckS 0 4 N) (k + 1) C 4 p 1 = 0 then (k : Int) + 1 else duF p k N C := by
  have h := frs_s2 (g := fun i => decide (itr (tckS 0 4 N) i C 4 p 1 = 0)) (k + 1) 0
  unfold duF
  rw [h, Nat.zero_add]
  by_cases c : frs (fun i => decide (itr (tckS 0 4 N) i C 4 p 1 = 0)) (k + 1) 0 < 0 ∧ itr (tckS 0 4 N) (k + 1) C 4 p 1 = 0
  · rw [if_pos ⟨c.1, decide_eq_true c.2⟩, if_pos c]; rfl
  · rw [if_neg (fun z => c ⟨z.1, of_decide_eq_true z.2⟩), if_neg c]
set_option maxHeartbeats 4000000 in
theorem f_p4 {w : xW} {S C D : xS} {B : String → xS → Prop} {A : Int → xS → Prop} {N p n : Nat} {t b l T q : Int} (hL : LIN T N C) (hT : T ≤ 700000) (hw : w.2.2.2.2.2.1 < 1000) (hQ : q ≤ 950000) (hp : p < 4) (hn : 1 ≤ n ∧ n ≤ 60) (hws : wshP t b l) (hq : ∀ D S', LIN T N D → BS (q + 4) D S' → A 1 S') {c12 : xV} {c13 : xV} {c14 : xV} {c15 : xV} {c16 : xV} {c17 : xV} {c18 : xV} {c19 : xV} (j12 : xcat2 c12 = false) (j13 : xcat2 c13 = false) (j14 : xcat2 c14 = false) (j15 : xcat2 c15 = false) (j16 : xcat2 c16 = false) (j17 : xcat2 c17 = false) (j18 : xcat2 c18 = false) (j19 : xcat2 c19 = false) (hB : BS q D S) (hv : SV N C C D) : X w mL_foretells (xTG w (fun v S' => ∃ a, v = some (xi a) ∧ A a S') B) 2 12 331 [xp 30 0, xi (p : Int), xi (n : Int), xi (duF p n N C), xi (itr (tckS 0 4 N) n C 4 p 0), xi (C 2 0 2), xi t, xi b, xi l, xi (waF t b l N C), xi (b2i (accF 0 5 N t b l C = true)), xi (duF p n N C), c12, c13, c14, c15, c16, c17, c18, c19] [] S := by
  have hV := hL.1
  have hN := hV.2.1
  have ht0 := hV.1.2.2.1
  have hwp := hws.1
  have hwb := hws.2
  have hLD := hv.L hL rfl
  refine xs_aload_0 eL_foretells_331 ?_
  refine xa_iconst eL_foretells_332 ?_
  refine xbi_V10 (mi' := mL_draw) (y := yL_draw) eL_foretells_333 (xw_5 lRL_152 wy_L_draw) rfl ⟨wd_L_draw, by decide, by decide⟩ (by decide) (fun _ => rfl) rfl (Nat.le_of_ble_eq_true rfl) rfl (k_draw hw hB (by omega) (by decide) (fun d1 S1 l1 hB1 => ?_))
  refine xa_if_le (tgt := 341) eL_foretells_336 (by decide) (by omega) (fun c336 => ?_) (fun c336 => ?_)
  · refine xa_iconst eL_foretells_341 ?_
    refine xs_aload_0 eL_foretells_342 ?_
    refine xa_bipush eL_foretells_343 (by decide) ?_
    refine xbi_V10 (mi' := mL_draw) (y := yL_draw) eL_foretells_345 (xw_5 lRL_152 wy_L_draw) rfl ⟨wd_L_draw, by decide, by decide⟩ (by decide) (fun _ => rfl) rfl (Nat.le_of_ble_eq_true rfl) rfl (k_draw hw hB1 (by omega) (by decide) (fun d2 S2 l2 hB2 => ?_))
    refine xa_iadd eL_foretells_348 ?_
    refine xs_istore_12 eL_foretells_349 rfl ?_
    obtain ⟨m, hm⟩ : ∃ m : Nat, 1 + (d2 : Int) = (m : Int) := ⟨1 + d2, by omega⟩
    rw [hm]
    refine xs_aload_0 eL_foretells_351 ?_
    refine g_X9_0 eL_foretells_352 lRL_10 ?_
    refine xs_iload_1 eL_foretells_355 ?_
    refine xs_iload_12 eL_foretells_356 ?_
    refine xbi_W30 (mi' := mL_bestBid) (y := yL_bestBid) eL_foretells_358 (xw_4 lRL_231 wy_L_bestBid) rfl ⟨wd_L_bestBid, by decide, by decide⟩ (Nat.le_of_ble_eq_true rfl) rfl (w_bestBid hB2 hLD.1 (by omega) hp (by omega) (fun S3 hB3 => ?_))
    have hv2 := hv.bs hB2 hN
    obtain ⟨x, x1, x2, x3⟩ := bb_best (hB2.L hLD) (by omega) hp (m := m) 99 (by decide)
    rw [show bbF p m 4 N S2 100 = _ from x2]
    have hR : ∀ (d f : Nat), d ≤ 99 → f < 11 → itr (tckS 0 4 N) m (up S2 4 p 2 (d : Int)) 4 p f = itr (tckS 0 4 N) m (up C 4 p 2 (d : Int)) 4 p f := fun d f hd hf => bid_R hv2.1 (hL.bid (by omega) hp (b := (d : Int)) (by omega)).1 hp hf
    have x4 : ∀ d : Nat, d ≤ 99 → itr (tckS 0 4 N) m (up C 4 p 2 (x : Int)) 4 p 1 < itr (tckS 0 4 N) m (up C 4 p 2 (d : Int)) 4 p 1 ∨ (itr (tckS 0 4 N) m (up C 4 p 2 (x : Int)) 4 p 1 = itr (tckS 0 4 N) m (up C 4 p 2 (d : Int)) 4 p 1 ∧ itr (tckS 0 4 N) m (up C 4 p 2 (d : Int)) 4 p 0 ≤ itr (tckS 0 4 N) m (up C 4 p 2 (x : Int)) 4 p 0) := fun d hd => by rw [← hR x 1 (by omega) (by decide), ← hR d 1 hd (by decide), ← hR x 0 (by omega) (by decide), ← hR d 0 hd (by decide)]; exact x3 d hd
    refine xs_istore_13 eL_foretells_361 rfl ?_
    refine xs_aload_0 eL_foretells_363 ?_
    refine xa_bipush eL_foretells_364 (by decide) ?_
    refine xbi_V10 (mi' := mL_draw) (y := yL_draw) eL_foretells_366 (xw_5 lRL_152 wy_L_draw) rfl ⟨wd_L_draw, by decide, by decide⟩ (by decide) (fun _ => rfl) rfl (Nat.le_of_ble_eq_true rfl) rfl (k_draw hw hB3 (by omega) (by decide) (fun d4 S4 l4 hB4 => ?_))
    refine xs_istore_14 eL_foretells_369 rfl ?_
    refine xs_aload_0 eL_foretells_371 ?_
    refine g_X9_0 eL_foretells_372 lRL_10 ?_
    refine xs_iload_1 eL_foretells_375 ?_
    refine xs_iload_13 eL_foretells_376 ?_
    refine xbi_W30 (mi' := mL_setBid) (y := yL_setBid) eL_foretells_378 (xw_4 lRL_233 wy_L_setBid) rfl ⟨wd_L_setBid, by decide, by decide⟩ (Nat.le_of_ble_eq_true rfl) rfl (w_setBid hB4 hLD.1 (by omega) hp (by omega) (fun S5 hB5 => ?_))
    rw [hv.p hp (by decide)]
    have hv4 := hv.bs hB4 hN
    have hv5 := hv4.bid hp (b := (x : Int))
    have hLx := hL.bid (by omega) hp (b := (x : Int)) (by omega)
    have hL5 := hv5.L hLx (up_oth (by omega))
    refine xs_istore_15 eL_foretells_381 rfl ?_
    refine xs_aload_0 eL_foretells_383 ?_
    refine g_X9_0 eL_foretells_384 lRL_10 ?_
    refine xs_iload_12 eL_foretells_387 ?_
    refine xbi_W20 (mi' := mL_run) (y := yL_run) eL_foretells_389 (xw_4 lRL_204 wy_L_run) rfl ⟨wd_L_run, by decide, by decide⟩ (Nat.le_of_ble_eq_true rfl) rfl (w_run hB5 hL5.1 (by omega) (m := m) (by omega) (fun S6 hB6 => ?_))
    have hS5 := (hB5.L hL5).its m
    have hv5s := hv5.bs hB5 hN
    have hv6 := hv5s.run hLx.1 (hB5.L hL5).1 m
    have hLxm := (hLx.its m).1
    have hL6 := (hB5.L hL5).its m
    replace hL6 := hL6.1
    have hg6 := hL6.1.2.2.2.1
    have hg5 := (hB5.L hL5).1.2.2.2.1
    unfold GQ at hg6 hg5
    have hpm := hLxm.1.P hp
    unfold PQ at hpm
    have hmono := hS5.2
    generalize itr (tckS 0 4 N) m S5 = D6 at hB6 hv6 hL6 hg6 hmono ⊢
    refine xa_if_ge (tgt := 397) eL_foretells_392 (by decide) (by omega) (fun c392 => ?_) (fun c392 => ?_)
    · refine xs_aload_0 eL_foretells_397 ?_
      refine g_X9_0 eL_foretells_398 lRL_10 ?_
      refine xs_iload_1 eL_foretells_401 ?_
      refine xa_iconst eL_foretells_402 ?_
      refine xbi_W30 (mi' := mL_process) (y := yL_process) eL_foretells_403 (xw_4 lRL_149 wy_L_process) rfl ⟨wd_L_process, by decide, by decide⟩ (Nat.le_of_ble_eq_true rfl) rfl (wp_1 hB6 hL6.1 (by omega) hp ?_)
      rw [hv6.p hp (by decide)]
      refine xs_istore_16 eL_foretells_406 rfl ?_
      refine xs_aload_0 eL_foretells_408 ?_
      refine g_X9_0 eL_foretells_409 lRL_10 ?_
      refine xs_iload_1 eL_foretells_412 ?_
      refine xa_iconst eL_foretells_413 ?_
      refine xbi_W30 (mi' := mL_process) (y := yL_process) eL_foretells_414 (xw_4 lRL_149 wy_L_process) rfl ⟨wd_L_process, by decide, by decide⟩ (Nat.le_of_ble_eq_true rfl) rfl (wp_0 hB6 hL6.1 (by omega) hp ?_)
      rw [hv6.p hp (by decide)]
      refine xs_istore_17 eL_foretells_417 rfl ?_
      refine xs_aload_0 eL_foretells_419 ?_
      refine g_X9_0 eL_foretells_420 lRL_10 ?_
      refine xa_iconst eL_foretells_423 ?_
      refine xbi_W2 (mi' := mL_restore) (y := yL_restore) eL_foretells_424 (xw_4 lRL_229 wy_L_restore) rfl ⟨wd_L_restore, by decide, by decide⟩ (Nat.le_of_ble_eq_true rfl) rfl ⟨by decide, by decide⟩ (w_restore (T := T) hB6 hN (by omega) ((hv6.bs hB6 hN).2.1.V hV) (hv6.bs hB6 hN).2.2.1 (hv6.bs hB6 hN).2.2.2.1 (fun S7 hB7 => ?_))
      · have hv7 := (hv6.bs hB6 hN).rst hN
        have hL7 := hv7.L hL rfl
        generalize cpyS 2 0 4 N S6 = D7 at hB7 hv7 hL7
        refine xa_if_ne (tgt := 457) eL_foretells_427 (by decide) (by decide) (fun c427 => ?_) (fun c427 => ?_)
        · exact absurd rfl c427
        · refine xs_aload_0 eL_foretells_430 ?_
          refine g_X9_0 eL_foretells_431 lRL_10 ?_
          refine xs_iload_1 eL_foretells_434 ?_
          refine xs_iload_14 eL_foretells_435 ?_
          refine xbi_W30 (mi' := mL_setBid) (y := yL_setBid) eL_foretells_437 (xw_4 lRL_233 wy_L_setBid) rfl ⟨wd_L_setBid, by decide, by decide⟩ (Nat.le_of_ble_eq_true rfl) rfl (w_setBid hB7 hL7.1 (by omega) hp (by omega) (fun S8 hB8 => ?_))
          rw [hv7.p hp (by decide)]
          have hv8 := (hv7.bs hB7 hN).bid hp (b := (d4 : Int))
          have hLy := hL.bid (by omega) hp (b := (d4 : Int)) (by omega)
          have hL8 := hv8.L hLy (up_oth (by omega))
          refine xs_iload_15 eL_foretells_440 ?_
          refine xa_icmp_ne (tgt := 457) eL_foretells_442 (by decide) (by have h9 := hV.P hp; unfold PQ at h9; omega) (by have h9 := hV.P hp; unfold PQ at h9; omega) (fun c442 => ?_) (fun c442 => ?_)
          · exfalso; exact c442 rfl
          · refine xs_aload_0 eL_foretells_445 ?_
            refine g_X9_0 eL_foretells_446 lRL_10 ?_
            refine xs_iload_12 eL_foretells_449 ?_
            refine xbi_W20 (mi' := mL_run) (y := yL_run) eL_foretells_451 (xw_4 lRL_204 wy_L_run) rfl ⟨wd_L_run, by decide, by decide⟩ (Nat.le_of_ble_eq_true rfl) rfl (w_run hB8 hL8.1 (by omega) (m := m) (by omega) (fun S9 hB9 => ?_))
            have hS8 := (hB8.L hL8).its m
            have hv8s := hv8.bs hB8 hN
            have hv9 := hv8s.run hLy.1 (hB8.L hL8).1 m
            have hLym := (hLy.its m).1
            have hL9 := (hB8.L hL8).its m
            replace hL9 := hL9.1
            have hg9 := hL9.1.2.2.2.1
            have hg8 := (hB8.L hL8).1.2.2.2.1
            unfold GQ at hg9 hg8
            have hpy := hLym.1.P hp
            unfold PQ at hpy
            have hmono8 := hS8.2
            generalize itr (tckS 0 4 N) m S8 = D9 at hB9 hv9 hL9 hg9 hmono8 ⊢
            refine xa_if_ge (tgt := 459) eL_foretells_454 (by decide) (by omega) (fun c454 => ?_) (fun c454 => ?_)
            · refine xs_aload_0 eL_foretells_459 ?_
              refine g_X9_0 eL_foretells_460 lRL_10 ?_
              refine xs_iload_1 eL_foretells_463 ?_
              refine xa_iconst eL_foretells_464 ?_
              refine xbi_W30 (mi' := mL_process) (y := yL_process) eL_foretells_465 (xw_4 lRL_149 wy_L_process) rfl ⟨wd_L_process, by decide, by decide⟩ (Nat.le_of_ble_eq_true rfl) rfl (wp_1 hB9 hL9.1 (by omega) hp ?_)
              rw [hv9.p hp (by decide)]
              refine xs_istore_18 eL_foretells_468 rfl ?_
              refine xs_aload_0 eL_foretells_470 ?_
              refine g_X9_0 eL_foretells_471 lRL_10 ?_
              refine xs_iload_1 eL_foretells_474 ?_
              refine xa_iconst eL_foretells_475 ?_
              refine xbi_W30 (mi' := mL_process) (y := yL_process) eL_foretells_476 (xw_4 lRL_149 wy_L_process) rfl ⟨wd_L_process, by decide, by decide⟩ (Nat.le_of_ble_eq_true rfl) rfl (wp_0 hB9 hL9.1 (by omega) hp ?_)
              rw [hv9.p hp (by decide)]
              refine xs_istore_19 eL_foretells_479 rfl ?_
              refine xs_iload_16 eL_foretells_481 ?_
              refine xs_iload_18 eL_foretells_483 ?_
              refine xa_icmp_lt (tgt := 502) eL_foretells_485 (by decide) (by omega) (by omega) (fun c485 => ?_) (fun c485 => ?_)
              · refine xs_aload_0 eL_foretells_502 ?_
                refine g_X9_0 eL_foretells_503 lRL_10 ?_
                refine xa_iconst eL_foretells_506 ?_
                refine xbi_W2 (mi' := mL_restore) (y := yL_restore) eL_foretells_507 (xw_4 lRL_229 wy_L_restore) rfl ⟨wd_L_restore, by decide, by decide⟩ (Nat.le_of_ble_eq_true rfl) rfl ⟨by decide, by decide⟩ (w_restore (T := T) hB9 hN (by omega) ((hv9.bs hB9 hN).2.1.V hV) (hv9.bs hB9 hN).2.2.1 (hv9.bs hB9 hN).2.2.2.1 (fun S10 hB10 => ?_))
                · have hv10 := (hv9.bs hB9 hN).rst hN
                  have hL10 := hv10.L hL rfl
                  generalize cpyS 2 0 4 N S9 = D10 at hB10 hv10 hL10
                  refine xa_if_ne (tgt := 517) eL_foretells_510 (by decide) (by decide) (fun c510 => ?_) (fun c510 => ?_)
                  · exact absurd rfl c510
                  · refine xa_iconst eL_foretells_513 ?_
                    refine xa_goto (tgt := 518) eL_foretells_514 (by decide) ?_
                    exact xa_zret eL_foretells_518 rfl (by omega) ⟨_, rfl, (by first | exact hq _ _ hL10 (hB10.mono (by omega)) | exact hq _ _ hLD (hB1.mono (by omega)))⟩
              · refine xs_iload_16 eL_foretells_488 ?_
                refine xs_iload_18 eL_foretells_490 ?_
                refine xa_icmp_ne (tgt := 517) eL_foretells_492 (by decide) (by omega) (by omega) (fun c492 => ?_) (fun c492 => ?_)
                · exfalso; have h9 := x4 d4 (by omega); omega
                · refine xs_iload_17 eL_foretells_495 ?_
                  refine xs_iload_19 eL_foretells_497 ?_
                  refine xa_icmp_lt (tgt := 517) eL_foretells_499 (by decide) (by omega) (by omega) (fun c499 => ?_) (fun c499 => ?_)
                  · exfalso; have h9 := x4 d4 (by omega); omega
                  · refine xs_aload_0 eL_foretells_502 ?_
                    refine g_X9_0 eL_foretells_503 lRL_10 ?_
                    refine xa_iconst eL_foretells_506 ?_
                    refine xbi_W2 (mi' := mL_restore) (y := yL_restore) eL_foretells_507 (xw_4 lRL_229 wy_L_restore) rfl ⟨wd_L_restore, by decide, by decide⟩ (Nat.le_of_ble_eq_true rfl) rfl ⟨by decide, by decide⟩ (w_restore (T := T) hB9 hN (by omega) ((hv9.bs hB9 hN).2.1.V hV) (hv9.bs hB9 hN).2.2.1 (hv9.bs hB9 hN).2.2.2.1 (fun S10 hB10 => ?_))
                    · have hv10 := (hv9.bs hB9 hN).rst hN
                      have hL10 := hv10.L hL rfl
                      generalize cpyS 2 0 4 N S9 = D10 at hB10 hv10 hL10
                      refine xa_if_ne (tgt := 517) eL_foretells_510 (by decide) (by decide) (fun c510 => ?_) (fun c510 => ?_)
                      · exact absurd rfl c510
                      · refine xa_iconst eL_foretells_513 ?_
                        refine xa_goto (tgt := 518) eL_foretells_514 (by decide) ?_
                        exact xa_zret eL_foretells_518 rfl (by omega) ⟨_, rfl, (by first | exact hq _ _ hL10 (hB10.mono (by omega)) | exact hq _ _ hLD (hB1.mono (by omega)))⟩
            · exfalso; omega
    · exfalso; omega
  · refine xa_iconst eL_foretells_339 ?_
    exact xa_zret eL_foretells_340 rfl (by omega) ⟨_, rfl, (by first | exact hq _ _ hL10 (hB10.mono (by omega)) | exact hq _ _ hLD (hB1.mono (by omega)))⟩
theorem X_mono {w : xW} {mi : xM} {TG : xT} {k n k' n' pc : Nat} {L st : List xV} {S : xS} (h : X w mi TG k n pc L st S) (hk : k ≤ k' := by decide) (hn : n ≤ n' := by decide) : X w mi TG k' n' pc L st S := by
  intro p l e R s m args below meth c H locs cells slots MC MS ls hC hB hR hS hl hL hst
  exact h p l e R s m args below meth c H locs cells slots MC MS ls hC ⟨by omega, by omega, hB.2.2⟩ hR hS hl hL hst
set_option maxHeartbeats 4000000 in
theorem f_p3 {w : xW} {S C D : xS} {B : String → xS → Prop} {A : Int → xS → Prop} {N p n : Nat} {t b l T q : Int} (hL : LIN T N C) (hT : T ≤ 700000) (hw : w.2.2.2.2.2.1 < 1000) (hQ : q ≤ 950000) (hp : p < 4) (hn : 1 ≤ n ∧ n ≤ 60) (hws : wshP t b l) (hq : ∀ D S', LIN T N D → BS (q + 4) D S' → A 1 S') {c12 : xV} {c13 : xV} {c14 : xV} {c15 : xV} {c16 : xV} {c17 : xV} {c18 : xV} {c19 : xV} (j12 : xcat2 c12 = false) (j13 : xcat2 c13 = false) (j14 : xcat2 c14 = false) (j15 : xcat2 c15 = false) (j16 : xcat2 c16 = false) (j17 : xcat2 c17 = false) (j18 : xcat2 c18 = false) (j19 : xcat2 c19 = false) (hB : BS q D S) (hv : SV N C C D) : X w mL_foretells (xTG w (fun v S' => ∃ a, v = some (xi a) ∧ A a S') B) 3 18 284 [xp 30 0, xi (p : Int), xi (n : Int), xi (duF p n N C), xi (itr (tckS 0 4 N) n C 4 p 0), xi (C 2 0 2), xi t, xi b, xi l, xi (waF t b l N C), xi (b2i (accF 0 5 N t b l C = true)), xi (duF p n N C), c12, c13, c14, c15, c16, c17, c18, c19] [] S := by
  have hV := hL.1
  have hN := hV.2.1
  have ht0 := hV.1.2.2.1
  have hwp := hws.1
  have hwb := hws.2
  have hLD := hv.L hL rfl
  have hS := hB.L hLD
  have hvs := hv.bs hB hN
  rcases wa_r (p := t) (b := b) (d := l) (N := N) (C := C) with e | ⟨z, e, z1, z2⟩
  · rw [e]
    refine xs_iload_9 eL_foretells_284 ?_
    refine xa_if_le (tgt := 331) eL_foretells_286 (by decide) (by decide) (fun c286 => ?_) (fun c286 => ?_)
    · rw [← e]; exact X_mono (f_p4 hL hT hw (by omega) hp hn hws hq j12 j13 j14 j15 j16 j17 j18 j19 hB hv)
    · exfalso; omega
  · rw [e]
    refine xs_iload_9 eL_foretells_284 ?_
    refine xa_if_le (tgt := 331) eL_foretells_286 (by decide) (by omega) (fun c286 => ?_) (fun c286 => ?_)
    · first | (rw [← e]; exact f_p4 hL hT hw (by omega) hp hn hws hq j12 j13 j14 j15 j16 j17 j18 j19 hB8 hv8) | (rw [← e]; exact X_mono (f_p4 hL hT hw (by omega) hp hn hws hq j12 j13 j14 j15 j16 j17 j18 j19 hB hv))
    · refine xs_aload_0 eL_foretells_289 ?_
      refine g_X9_0 eL_foretells_290 lRL_10 ?_
      refine xs_iload_9 eL_foretells_293 ?_
      refine xbi_W20 (mi' := mL_run) (y := yL_run) eL_foretells_295 (xw_4 lRL_204 wy_L_run) rfl ⟨wd_L_run, by decide, by decide⟩ (Nat.le_of_ble_eq_true rfl) rfl (w_run hB hLD.1 (by omega) (m := z) (by omega) (fun S6 hB6 => ?_))
      have hL6 := hS.its z
      have hmono := hL6.2
      replace hL6 := hL6.1
      have hg6 := hL6.1.2.2.2.1
      have hg5 := hS.1.2.2.2.1
      unfold GQ at hg6 hg5
      have hv6 := hvs.run hL.1 hS.1 z
      generalize itr (tckS 0 4 N) z S = D6 at hB6 hv6 hL6 hg6 hmono ⊢
      refine xa_if_lt (tgt := 329) eL_foretells_298 (by decide) (by omega) (fun c298 => ?_) (fun c298 => ?_)
      · exfalso; omega
      · refine xs_aload_0 eL_foretells_301 ?_
        refine g_X9_0 eL_foretells_302 lRL_10 ?_
        refine xs_iload_6 eL_foretells_305 ?_
        refine xs_iload_7 eL_foretells_307 ?_
        refine xs_iload_8 eL_foretells_309 ?_
        refine xbi_W40 (mi' := mL_canAccept) (y := yL_canAccept) eL_foretells_311 (xw_4 lRL_162 wy_L_canAccept) rfl ⟨wd_L_canAccept, by decide, by decide⟩ (Nat.le_of_ble_eq_true rfl) rfl (w_canAccept hB6 hL6.1 (by omega) hws (fun S7 hB7 => ?_))
        refine xa_iconst eL_foretells_314 ?_
        refine xa_icmp_ne (tgt := 329) eL_foretells_315 (by decide) (b2i_r _) (by decide) (fun c315 => ?_) (fun c315 => ?_)
        · exfalso
          refine c315 ?_
          have e9 : accF 0 5 N t b l D6 = true := by rw [tlq.acc (u := 5) (u' := 5) hv6.tl]; exact z2
          unfold b2i
          rw [if_pos e9]
        · refine xs_aload_0 eL_foretells_318 ?_
          refine g_X9_0 eL_foretells_319 lRL_10 ?_
          refine xa_iconst eL_foretells_322 ?_
          refine xbi_W2 (mi' := mL_restore) (y := yL_restore) eL_foretells_323 (xw_4 lRL_229 wy_L_restore) rfl ⟨wd_L_restore, by decide, by decide⟩ (Nat.le_of_ble_eq_true rfl) rfl ⟨by decide, by decide⟩ (w_restore (T := T) hB7 hN (by omega) ((hv6.bs hB7 hN).2.1.V hV) (hv6.bs hB7 hN).2.2.1 (hv6.bs hB7 hN).2.2.2.1 (fun S8 hB8 => ?_))
          · have hv8 := (hv6.bs hB7 hN).rst hN
            refine xa_if_eq (tgt := 331) eL_foretells_326 (by decide) (by decide) (fun c326 => ?_) (fun c326 => ?_)
            · first | (rw [← e]; exact f_p4 hL hT hw (by omega) hp hn hws hq j12 j13 j14 j15 j16 j17 j18 j19 hB8 hv8) | (rw [← e]; exact X_mono (f_p4 hL hT hw (by omega) hp hn hws hq j12 j13 j14 j15 j16 j17 j18 j19 hB hv))
            · exact absurd rfl c326
set_option maxHeartbeats 4000000 in
theorem f_p2 {w : xW} {S C D : xS} {B : String → xS → Prop} {A : Int → xS → Prop} {N p n : Nat} {t b l T q : Int} (hL : LIN T N C) (hT : T ≤ 700000) (hw : w.2.2.2.2.2.1 < 1000) (hQ : q ≤ 950000) (hp : p < 4) (hn : 1 ≤ n ∧ n ≤ 60) (hws : wshP t b l) (hq : ∀ D S', LIN T N D → BS (q + 4) D S' → A 1 S') {c13 : xV} {c14 : xV} {c15 : xV} {c16 : xV} {c17 : xV} {c18 : xV} {c19 : xV} (j13 : xcat2 c13 = false) (j14 : xcat2 c14 = false) (j15 : xcat2 c15 = false) (j16 : xcat2 c16 = false) (j17 : xcat2 c17 = false) (j18 : xcat2 c18 = false) (j19 : xcat2 c19 = false) (k : Nat) (hk : k ≤ n) (hB : BS q D S) (hv : SV N C (itr (tckS 0 4 N) k C) D) : X w mL_foretells (xTG w (fun v S' => ∃ a, v = some (xi a) ∧ A a S') B) 4 24 200 [xp 30 0, xi (p : Int), xi (n : Int), xi (duF p n N C), xi (itr (tckS 0 4 N) n C 4 p 0), xi (C 2 0 2), xi t, xi b, xi l, xi (waF t b l N C), xi (b2i (accF 0 5 N t b l C = true)), xi (duF p k N C), xi ((k : Int) + 1), c13, c14, c15, c16, c17, c18, c19] [] S := by
  have hV := hL.1
  have hN := hV.2.1
  have ht0 := hV.1.2.2.1
  have hwp := hws.1
  have hwb := hws.2
  revert S D
  refine nloop (Q := fun k => ∀ {S D : xS}, BS q D S → SV N C (itr (tckS 0 4 N) k C) D → X w mL_foretells (xTG w (fun v S' => ∃ a, v = some (xi a) ∧ A a S') B) 4 24 200 [xp 30 0, xi (p : Int), xi (n : Int), xi (duF p n N C), xi (itr (tckS 0 4 N) n C 4 p 0), xi (C 2 0 2), xi t, xi b, xi l, xi (waF t b l N C), xi (b2i (accF 0 5 N t b l C = true)), xi (duF p k N C), xi ((k : Int) + 1), c13, c14, c15, c16, c17, c18, c19] [] S) n (fun k hk ih => ?_) k hk
  intro S D hB hv
  have hLk := (hL.its k).1
  have e31 : itr (tckS 0 4 N) k C 31 0 = C 31 0 := itr_fr hV k 31 0 (by omega) (by omega) (by omega) (by omega) (by omega) (by omega)
  have hLD := hv.L hLk e31
  have hS := hB.L hLD
  have hvs := hv.bs hB hN
  have hdu := du_r (p := p) (n := k) (N := N) (C := C) (by omega)
  by_cases hkn : k = n
  · subst hkn
    refine xs_iload_12 eL_foretells_200 ?_
    refine xs_iload_2 eL_foretells_202 ?_
    refine xa_icmp_gt (tgt := 251) eL_foretells_203 (by decide) (by omega) (by omega) (fun c203 => ?_) (fun c203 => ?_)
    · refine xs_iload_11 eL_foretells_251 ?_
      refine xs_iload_3 eL_foretells_253 ?_
      refine xa_icmp_ne (tgt := 282) eL_foretells_254 (by decide) (by omega) (by omega) (fun c254 => ?_) (fun c254 => ?_)
      · exfalso; exact c254 rfl
      · refine xs_aload_0 eL_foretells_257 ?_
        refine g_X9_0 eL_foretells_258 lRL_10 ?_
        refine xs_iload_1 eL_foretells_261 ?_
        refine xa_iconst eL_foretells_262 ?_
        refine xbi_W30 (mi' := mL_process) (y := yL_process) eL_foretells_263 (xw_4 lRL_149 wy_L_process) rfl ⟨wd_L_process, by decide, by decide⟩ (Nat.le_of_ble_eq_true rfl) rfl (wp_0 hB hLD.1 (by omega) hp ?_)
        rw [hv.p hp (by decide)]
        refine xs_iload_4 eL_foretells_266 ?_
        refine xa_icmp_ne (tgt := 282) eL_foretells_268 (by decide) (by have h9 := hLk.1.P hp; unfold PQ at h9; omega) (by have h9 := hLk.1.P hp; unfold PQ at h9; omega) (fun c268 => ?_) (fun c268 => ?_)
        · exfalso; exact c268 rfl
        · refine xs_aload_0 eL_foretells_271 ?_
          refine g_X9_0 eL_foretells_272 lRL_10 ?_
          refine xa_iconst eL_foretells_275 ?_
          refine xbi_W2 (mi' := mL_restore) (y := yL_restore) eL_foretells_276 (xw_4 lRL_229 wy_L_restore) rfl ⟨wd_L_restore, by decide, by decide⟩ (Nat.le_of_ble_eq_true rfl) rfl ⟨by decide, by decide⟩ (w_restore (T := T) hB hN (by omega) ((hv.bs hB hN).2.1.V hV) (hv.bs hB hN).2.2.1 (hv.bs hB hN).2.2.2.1 (fun S7 hB7 => ?_))
          · have hv7 := hvs.rst hN
            refine xa_if_eq (tgt := 284) eL_foretells_279 (by decide) (by decide) (fun c279 => ?_) (fun c279 => ?_)
            · exact f_p3 hL hT hw hQ hp hn hws hq rfl j13 j14 j15 j16 j17 j18 j19 hB7 hv7
            · exact absurd rfl c279
    · exfalso; omega
  · skip
    refine xs_iload_12 eL_foretells_200 ?_
    refine xs_iload_2 eL_foretells_202 ?_
    refine xa_icmp_gt (tgt := 251) eL_foretells_203 (by decide) (by omega) (by omega) (fun c203 => ?_) (fun c203 => ?_)
    · exfalso; omega
    · refine xs_aload_0 eL_foretells_206 ?_
      refine g_X9_0 eL_foretells_207 lRL_10 ?_
      refine xa_iconst eL_foretells_210 ?_
      refine xbi_W20 (mi' := mL_run) (y := yL_run) eL_foretells_211 (xw_4 lRL_204 wy_L_run) rfl ⟨wd_L_run, by decide, by decide⟩ (Nat.le_of_ble_eq_true rfl) rfl (w_run hB hLD.1 (by omega) (m := 1) (by omega) (fun S6 hB6 => ?_))
      have hL6 := hS.its 1
      have hmono := hL6.2
      replace hL6 := hL6.1
      have hg6 := hL6.1.2.2.2.1
      have hg5 := hS.1.2.2.2.1
      unfold GQ at hg6 hg5
      have hv6 : SV N C (itr (tckS 0 4 N) (k + 1) C) (itr (tckS 0 4 N) 1 S) := hvs.run hLk.1 hS.1 1
      generalize itr (tckS 0 4 N) 1 S = D6 at hB6 hv6 hL6 hg6 hmono ⊢
      refine xa_if_ge (tgt := 219) eL_foretells_214 (by decide) (by omega) (fun c214 => ?_) (fun c214 => ?_)
      · refine xs_iload_11 eL_foretells_219 ?_
        refine xa_if_ge (tgt := 241) eL_foretells_221 (by decide) (by omega) (fun c221 => ?_) (fun c221 => ?_)
        · refine xs_iload_11 eL_foretells_241 ?_
          refine xs_istore_11 eL_foretells_243 rfl ?_
          refine xs_iinc_12 eL_foretells_245 rfl ?_
          refine xa_goto (tgt := 200) eL_foretells_248 (by decide) ?_
          have h9 := ih (k + 1) (by omega) (by omega) hB6 hv6
          rw [came_s] at h9
          first | (rw [if_pos ⟨by omega, c233⟩] at h9; exact h9) | (rw [if_neg (fun z => c233 z.2)] at h9; exact h9) | (rw [if_neg (fun z => by omega)] at h9; exact h9)
        · refine xs_aload_0 eL_foretells_224 ?_
          refine g_X9_0 eL_foretells_225 lRL_10 ?_
          refine xs_iload_1 eL_foretells_228 ?_
          refine xa_iconst eL_foretells_229 ?_
          refine xbi_W30 (mi' := mL_process) (y := yL_process) eL_foretells_230 (xw_4 lRL_149 wy_L_process) rfl ⟨wd_L_process, by decide, by decide⟩ (Nat.le_of_ble_eq_true rfl) rfl (wp_1 hB6 hL6.1 (by omega) hp ?_)
          rw [hv6.p hp (by decide)]
          refine xa_if_ne (tgt := 241) eL_foretells_233 (by decide) (by have h9 := (hL.its (k + 1)).1.1.P hp; unfold PQ at h9; omega) (fun c233 => ?_) (fun c233 => ?_)
          · refine xs_iload_11 eL_foretells_241 ?_
            refine xs_istore_11 eL_foretells_243 rfl ?_
            refine xs_iinc_12 eL_foretells_245 rfl ?_
            refine xa_goto (tgt := 200) eL_foretells_248 (by decide) ?_
            have h9 := ih (k + 1) (by omega) (by omega) hB6 hv6
            rw [came_s] at h9
            first | (rw [if_pos ⟨by omega, c233⟩] at h9; exact h9) | (rw [if_neg (fun z => c233 z.2)] at h9; exact h9) | (rw [if_neg (fun z => by omega)] at h9; exact h9)
          · refine xs_iload_12 eL_foretells_236 ?_
            refine xa_goto (tgt := 243) eL_foretells_238 (by decide) ?_
            refine xs_istore_11 eL_foretells_243 rfl ?_
            refine xs_iinc_12 eL_foretells_245 rfl ?_
            refine xa_goto (tgt := 200) eL_foretells_248 (by decide) ?_
            have h9 := ih (k + 1) (by omega) (by omega) hB6 hv6
            rw [came_s] at h9
            first | (rw [if_pos ⟨by omega, c233⟩] at h9; exact h9) | (rw [if_neg (fun z => c233 z.2)] at h9; exact h9) | (rw [if_neg (fun z => by omega)] at h9; exact h9)
      · exfalso; omega
set_option maxHeartbeats 4000000 in
theorem k_foretells {w : xW} {S : xS} {B : String → xS → Prop} {A : Int → xS → Prop} {C : xS} {N : Nat} {T q : Int} (hB : BS q C S) (hL : LIN T N C) (hT : T ≤ 700000) (hw : w.2.2.2.2.2.1 < 1000) (hQ : q ≤ 900000) (hq : ∀ D S', LIN T N D → BS (q + 10) D S' → A 1 S') : Ki w mL_foretells yL_foretells 5 30 [xp 30 0] S A B := by
  refine K.of rfl rfl rfl rfl (Nat.le_of_ble_eq_true rfl) rfl ?_
  have hV := hL.1
  have hN := hV.2.1
  have ht0 := hV.1.2.2.1
  obtain ⟨-, g, hE, hper, h21, hz⟩ := id hL
  have hT2 : T ≤ 800000 := by omega
  refine xs_aload_0 eL_foretells_0 ?_
  refine xa_iconst eL_foretells_1 ?_
  refine xbi_V10 (mi' := mL_draw) (y := yL_draw) eL_foretells_2 (xw_5 lRL_152 wy_L_draw) rfl ⟨wd_L_draw, by decide, by decide⟩ (by decide) (fun _ => rfl) rfl (Nat.le_of_ble_eq_true rfl) rfl (k_draw hw hB (by omega) (by decide) (fun p S1 l1 hB1 => ?_))
  refine xs_istore_1 eL_foretells_5 rfl ?_
  refine xa_iconst eL_foretells_6 ?_
  refine xs_aload_0 eL_foretells_7 ?_
  refine xa_bipush eL_foretells_8 (by decide) ?_
  refine xbi_V10 (mi' := mL_draw) (y := yL_draw) eL_foretells_10 (xw_5 lRL_152 wy_L_draw) rfl ⟨wd_L_draw, by decide, by decide⟩ (by decide) (fun _ => rfl) rfl (Nat.le_of_ble_eq_true rfl) rfl (k_draw hw hB1 (by omega) (by decide) (fun d2 S2 l2 hB2 => ?_))
  refine xa_iadd eL_foretells_13 ?_
  refine xs_istore_2 eL_foretells_14 rfl ?_
  obtain ⟨n, hn1⟩ : ∃ n : Nat, 1 + (d2 : Int) = (n : Int) := ⟨1 + d2, by omega⟩
  rw [hn1]
  have hn : 1 ≤ n ∧ n ≤ 60 := by omega
  have hn5 : 1 ≤ n ∧ n ≤ 500 := by omega
  have hp : p < 4 := by omega
  refine xs_aload_0 eL_foretells_15 ?_
  refine g_X9_0 eL_foretells_16 lRL_10 ?_
  refine xs_iload_1 eL_foretells_19 ?_
  refine xs_iload_2 eL_foretells_20 ?_
  refine xbi_W30 (mi' := mL_ticksToFinish) (y := yL_ticksToFinish) eL_foretells_21 (xw_4 lRL_221 wy_L_ticksToFinish) rfl ⟨wd_L_ticksToFinish, by decide, by decide⟩ (Nat.le_of_ble_eq_true rfl) rfl (w_tf hB2 hV hT2 hp hn5 (fun S3 hB3 => ?_))
  refine xs_istore_3 eL_foretells_24 rfl ?_
  refine xs_aload_0 eL_foretells_25 ?_
  refine g_X9_0 eL_foretells_26 lRL_10 ?_
  refine xs_iload_1 eL_foretells_29 ?_
  refine xs_iload_2 eL_foretells_30 ?_
  refine xbi_W30 (mi' := mL_moneyAfter) (y := yL_moneyAfter) eL_foretells_31 (xw_4 lRL_223 wy_L_moneyAfter) rfl ⟨wd_L_moneyAfter, by decide, by decide⟩ (Nat.le_of_ble_eq_true rfl) rfl (w_ma hB3 hV hT2 hp hn5 (fun S4 hB4 => ?_))
  refine xs_istore_4 eL_foretells_34 rfl ?_
  refine xs_aload_0 eL_foretells_36 ?_
  refine g_X9_0 eL_foretells_37 lRL_10 ?_
  refine xa_iconst eL_foretells_40 ?_
  refine xbi_W20 (mi' := mL_count) (y := yL_count) eL_foretells_41 (xw_4 lRL_146 wy_L_count) rfl ⟨wd_L_count, by decide, by decide⟩ (Nat.le_of_ble_eq_true rfl) rfl (wc_0 hB4 hV hT2 ?_)
  refine xs_istore_5 eL_foretells_44 rfl ?_
  refine xs_aload_0 eL_foretells_46 ?_
  refine g_X9_3 eL_foretells_47 lRL_16 ?_
  refine xs_aload_0 eL_foretells_50 ?_
  refine xa_bipush eL_foretells_51 (by decide) ?_
  refine xbi_V10 (mi' := mL_draw) (y := yL_draw) eL_foretells_53 (xw_5 lRL_152 wy_L_draw) rfl ⟨wd_L_draw, by decide, by decide⟩ (by decide) (fun _ => rfl) rfl (Nat.le_of_ble_eq_true rfl) rfl (k_draw hw hB4 (by omega) (by decide) (fun d3 S5 l3 hB5 => ?_))
  refine gar_31 eL_foretells_56 (by omega) (fun r56 => ?_)
  have e56 : S5 31 0 (d3 : Int).toNat = perA d3 := by rw [Int.toNat_natCast, hB5.at (by decide) (by decide) (by unfold sct; omega)]; exact hper d3 (by omega)
  rw [e56]
  obtain ⟨hP, hP2⟩ := perA_ok d3 (by omega)
  generalize perA d3 = P at hP hP2
  refine xs_istore_6 eL_foretells_57 rfl ?_
  refine xa_iconst eL_foretells_59 ?_
  refine xs_aload_0 eL_foretells_60 ?_
  refine xa_iconst eL_foretells_61 ?_
  refine xs_iload_6 eL_foretells_62 ?_
  refine xa_iconst eL_foretells_64 ?_
  refine xa_idiv eL_foretells_65 (by omega) (by omega) (by omega) ?_
  have e65 : Int.tdiv P 2 = P / 2 := Int.tdiv_eq_ediv_of_nonneg (by omega)
  rw [e65]
  refine xa_max eL_foretells_66 lRL_32 lm_max1 li_Math lm_max2 (by decide) (Nat.le_of_ble_eq_true rfl) rfl (by decide) (by omega) ?_
  obtain ⟨m1, m2, m3⟩ := xmax_max 1 (P / 2)
  generalize xmax 1 (P / 2) = M at m1 m2 m3 ⊢
  refine xbi_V10 (mi' := mL_draw) (y := yL_draw) eL_foretells_69 (xw_5 lRL_152 wy_L_draw) rfl ⟨wd_L_draw, by decide, by decide⟩ (by decide) (fun _ => rfl) rfl (Nat.le_of_ble_eq_true rfl) rfl (k_draw hw hB5 (by omega) (by omega) (fun d4 S6 l4 hB6 => ?_))
  refine xa_iadd eL_foretells_72 ?_
  obtain ⟨b, hb⟩ : ∃ b, b = 1 + (d4 : Int) := ⟨_, rfl⟩
  rw [← hb]
  refine xs_istore_7 eL_foretells_73 rfl ?_
  refine xs_iload_7 eL_foretells_75 ?_
  refine xs_aload_0 eL_foretells_77 ?_
  refine xs_iload_6 eL_foretells_78 ?_
  refine xs_iload_7 eL_foretells_80 ?_
  refine xa_isub eL_foretells_82 ?_
  refine xa_iconst eL_foretells_83 ?_
  refine xa_iadd eL_foretells_84 ?_
  refine xbi_V10 (mi' := mL_draw) (y := yL_draw) eL_foretells_85 (xw_5 lRL_152 wy_L_draw) rfl ⟨wd_L_draw, by decide, by decide⟩ (by decide) (fun _ => rfl) rfl (Nat.le_of_ble_eq_true rfl) rfl (k_draw hw hB6 (by omega) (by omega) (fun d5 S7 l5 hB7 => ?_))
  refine xa_iadd eL_foretells_88 ?_
  refine xs_istore_8 eL_foretells_89 rfl ?_
  obtain ⟨l, hl⟩ : ∃ l, l = b + (d5 : Int) := ⟨_, rfl⟩
  rw [← hl]
  have hws : wshP P b l := ⟨⟨by omega, by omega, hP2⟩, by omega, by omega⟩
  refine xs_aload_0 eL_foretells_91 ?_
  refine g_X9_0 eL_foretells_92 lRL_10 ?_
  refine xs_iload_6 eL_foretells_95 ?_
  refine xs_iload_7 eL_foretells_97 ?_
  refine xs_iload_8 eL_foretells_99 ?_
  refine xbi_W40 (mi' := mL_waitFor) (y := yL_waitFor) eL_foretells_101 (xw_4 lRL_225 wy_L_waitFor) rfl ⟨wd_L_waitFor, by decide, by decide⟩ (Nat.le_of_ble_eq_true rfl) rfl (w_wf hB7 hV hT2 hws (fun S8 hB8 => ?_))
  refine xs_istore_9 eL_foretells_104 rfl ?_
  refine xs_aload_0 eL_foretells_106 ?_
  refine g_X9_0 eL_foretells_107 lRL_10 ?_
  refine xs_iload_6 eL_foretells_110 ?_
  refine xs_iload_7 eL_foretells_112 ?_
  refine xs_iload_8 eL_foretells_114 ?_
  refine xbi_W40 (mi' := mL_canAccept) (y := yL_canAccept) eL_foretells_116 (xw_4 lRL_162 wy_L_canAccept) rfl ⟨wd_L_canAccept, by decide, by decide⟩ (Nat.le_of_ble_eq_true rfl) rfl (w_canAccept hB8 hV hT2 hws (fun S9 hB9 => ?_))
  refine xs_istore_10 eL_foretells_119 rfl ?_
  have hwa : -1 ≤ waF P b l N C ∧ waF P b l N C ≤ 120 := by rcases wa_r (p := P) (b := b) (d := l) (N := N) (C := C) with e | ⟨z, e, z1, z2⟩ <;> omega
  have hw0 := wa_0 (p := P) (b := b) (d := l) (N := N) (C := C)
  have hb1 : b2i (accF 0 5 N P b l C = true) = 1 ↔ accF 0 5 N P b l C = true := by unfold b2i; split <;> simp_all
  refine xs_aload_0 eL_foretells_121 ?_
  refine g_X9_0 eL_foretells_122 lRL_10 ?_
  refine xa_iconst eL_foretells_125 ?_
  refine xbi_W20 (mi' := mL_count) (y := yL_count) eL_foretells_126 (xw_4 lRL_146 wy_L_count) rfl ⟨wd_L_count, by decide, by decide⟩ (Nat.le_of_ble_eq_true rfl) rfl (wc_0 hB9 hV hT2 ?_)
  refine xs_iload_5 eL_foretells_129 ?_
  refine xa_icmp_ne (tgt := 176) eL_foretells_131 (by decide) (by omega) (by omega) (fun c131 => ?_) (fun c131 => ?_)
  · exfalso; omega
  · refine xs_iload_9 eL_foretells_134 ?_
    refine xa_if_ne (tgt := 143) eL_foretells_136 (by decide) (by omega) (fun c136 => ?_) (fun c136 => ?_)
    · refine xa_iconst eL_foretells_143 ?_
      refine xs_iload_10 eL_foretells_144 ?_
      refine xa_iconst eL_foretells_146 ?_
      refine xa_icmp_ne (tgt := 154) eL_foretells_147 (by decide) (b2i_r _) (by decide) (fun c147 => ?_) (fun c147 => ?_)
      · refine xa_iconst eL_foretells_154 ?_
        refine xa_icmp_ne (tgt := 176) eL_foretells_155 (by decide) (by omega) (by omega) (fun c155 => ?_) (fun c155 => ?_)
        · exfalso; first | omega | (rw [hw0, ← hb1] at *; omega) | (have h7 := hw0.trans hb1.symm; omega)
        · refine xs_iload_9 eL_foretells_158 ?_
          refine xa_bipush eL_foretells_160 (by decide) ?_
          refine xa_icmp_gt (tgt := 176) eL_foretells_162 (by decide) (by omega) (by decide) (fun c162 => ?_) (fun c162 => ?_)
          · exfalso; omega
          · refine xs_aload_0 eL_foretells_165 ?_
            refine g_X9_0 eL_foretells_166 lRL_10 ?_
            refine xa_iconst eL_foretells_169 ?_
            refine xbi_W2 (mi' := mL_save) (y := yL_save) eL_foretells_170 (xw_4 lRL_227 wy_L_save) rfl ⟨wd_L_save, by decide, by decide⟩ (Nat.le_of_ble_eq_true rfl) rfl ⟨by decide, by decide⟩ (w_save hB9 hV hT2 (fun S10 hB10 => ?_))
            · have hLS9 := hB9.L hL
              have hv := SV.mk hN (hB9.sq0 hN) (hB9.at (x := 31) (y := 0) (by decide) (by decide) (by unfold sct; omega)) hLS9.2.2.2.2.1
              have hLD := hv.L hL rfl
              generalize up (cpyS 0 2 4 N S9) 21 0 0 1 = D at hB10 hv hLD
              refine xa_if_eq (tgt := 178) eL_foretells_173 (by decide) (by decide) (fun c173 => ?_) (fun c173 => ?_)
              · refine xs_aload_0 eL_foretells_178 ?_
                refine g_X9_0 eL_foretells_179 lRL_10 ?_
                refine xs_iload_1 eL_foretells_182 ?_
                refine xa_iconst eL_foretells_183 ?_
                refine xbi_W30 (mi' := mL_process) (y := yL_process) eL_foretells_184 (xw_4 lRL_149 wy_L_process) rfl ⟨wd_L_process, by decide, by decide⟩ (Nat.le_of_ble_eq_true rfl) rfl (wp_1 hB10 hLD.1 hT2 hp ?_)
                rw [hv.p hp (by decide)]
                refine xa_if_ne (tgt := 194) eL_foretells_187 (by decide) (by have h9 := hV.P hp; unfold PQ at h9; omega) (fun c187 => ?_) (fun c187 => ?_)
                · refine xa_iconst eL_foretells_194 ?_
                  refine xs_istore_11 eL_foretells_195 rfl ?_
                  refine xa_iconst eL_foretells_197 ?_
                  refine xs_istore_12 eL_foretells_198 rfl ?_
                  have h9 := f_p2 hL hT hw (show q + 5 ≤ 950000 by omega) hp hn hws (fun D S' a1 a2 => hq D S' a1 (a2.mono (by omega))) (B := B) (S := S10) (D := D) (c13 := xj) (c14 := xj) (c15 := xj) (c16 := xj) (c17 := xj) (c18 := xj) (c19 := xj) rfl rfl rfl rfl rfl rfl rfl 0 (by omega) (hB10.mono (by omega)) hv
                  rw [came_0] at h9
                  first | (rw [if_pos c187] at h9; exact h9) | (rw [if_neg c187] at h9; exact h9)
                · refine xa_iconst eL_foretells_190 ?_
                  refine xa_goto (tgt := 195) eL_foretells_191 (by decide) ?_
                  refine xs_istore_11 eL_foretells_195 rfl ?_
                  refine xa_iconst eL_foretells_197 ?_
                  refine xs_istore_12 eL_foretells_198 rfl ?_
                  have h9 := f_p2 hL hT hw (show q + 5 ≤ 950000 by omega) hp hn hws (fun D S' a1 a2 => hq D S' a1 (a2.mono (by omega))) (B := B) (S := S10) (D := D) (c13 := xj) (c14 := xj) (c15 := xj) (c16 := xj) (c17 := xj) (c18 := xj) (c19 := xj) rfl rfl rfl rfl rfl rfl rfl 0 (by omega) (hB10.mono (by omega)) hv
                  rw [came_0] at h9
                  first | (rw [if_pos c187] at h9; exact h9) | (rw [if_neg c187] at h9; exact h9)
              · exact absurd rfl c173
      · refine xa_iconst eL_foretells_150 ?_
        refine xa_goto (tgt := 155) eL_foretells_151 (by decide) ?_
        refine xa_icmp_ne (tgt := 176) eL_foretells_155 (by decide) (by omega) (by omega) (fun c155 => ?_) (fun c155 => ?_)
        · exfalso; first | omega | (rw [hw0, ← hb1] at *; omega) | (have h7 := hw0.trans hb1.symm; omega)
        · refine xs_iload_9 eL_foretells_158 ?_
          refine xa_bipush eL_foretells_160 (by decide) ?_
          refine xa_icmp_gt (tgt := 176) eL_foretells_162 (by decide) (by omega) (by decide) (fun c162 => ?_) (fun c162 => ?_)
          · exfalso; omega
          · refine xs_aload_0 eL_foretells_165 ?_
            refine g_X9_0 eL_foretells_166 lRL_10 ?_
            refine xa_iconst eL_foretells_169 ?_
            refine xbi_W2 (mi' := mL_save) (y := yL_save) eL_foretells_170 (xw_4 lRL_227 wy_L_save) rfl ⟨wd_L_save, by decide, by decide⟩ (Nat.le_of_ble_eq_true rfl) rfl ⟨by decide, by decide⟩ (w_save hB9 hV hT2 (fun S10 hB10 => ?_))
            · have hLS9 := hB9.L hL
              have hv := SV.mk hN (hB9.sq0 hN) (hB9.at (x := 31) (y := 0) (by decide) (by decide) (by unfold sct; omega)) hLS9.2.2.2.2.1
              have hLD := hv.L hL rfl
              generalize up (cpyS 0 2 4 N S9) 21 0 0 1 = D at hB10 hv hLD
              refine xa_if_eq (tgt := 178) eL_foretells_173 (by decide) (by decide) (fun c173 => ?_) (fun c173 => ?_)
              · refine xs_aload_0 eL_foretells_178 ?_
                refine g_X9_0 eL_foretells_179 lRL_10 ?_
                refine xs_iload_1 eL_foretells_182 ?_
                refine xa_iconst eL_foretells_183 ?_
                refine xbi_W30 (mi' := mL_process) (y := yL_process) eL_foretells_184 (xw_4 lRL_149 wy_L_process) rfl ⟨wd_L_process, by decide, by decide⟩ (Nat.le_of_ble_eq_true rfl) rfl (wp_1 hB10 hLD.1 hT2 hp ?_)
                rw [hv.p hp (by decide)]
                refine xa_if_ne (tgt := 194) eL_foretells_187 (by decide) (by have h9 := hV.P hp; unfold PQ at h9; omega) (fun c187 => ?_) (fun c187 => ?_)
                · refine xa_iconst eL_foretells_194 ?_
                  refine xs_istore_11 eL_foretells_195 rfl ?_
                  refine xa_iconst eL_foretells_197 ?_
                  refine xs_istore_12 eL_foretells_198 rfl ?_
                  have h9 := f_p2 hL hT hw (show q + 5 ≤ 950000 by omega) hp hn hws (fun D S' a1 a2 => hq D S' a1 (a2.mono (by omega))) (B := B) (S := S10) (D := D) (c13 := xj) (c14 := xj) (c15 := xj) (c16 := xj) (c17 := xj) (c18 := xj) (c19 := xj) rfl rfl rfl rfl rfl rfl rfl 0 (by omega) (hB10.mono (by omega)) hv
                  rw [came_0] at h9
                  first | (rw [if_pos c187] at h9; exact h9) | (rw [if_neg c187] at h9; exact h9)
                · refine xa_iconst eL_foretells_190 ?_
                  refine xa_goto (tgt := 195) eL_foretells_191 (by decide) ?_
                  refine xs_istore_11 eL_foretells_195 rfl ?_
                  refine xa_iconst eL_foretells_197 ?_
                  refine xs_istore_12 eL_foretells_198 rfl ?_
                  have h9 := f_p2 hL hT hw (show q + 5 ≤ 950000 by omega) hp hn hws (fun D S' a1 a2 => hq D S' a1 (a2.mono (by omega))) (B := B) (S := S10) (D := D) (c13 := xj) (c14 := xj) (c15 := xj) (c16 := xj) (c17 := xj) (c18 := xj) (c19 := xj) rfl rfl rfl rfl rfl rfl rfl 0 (by omega) (hB10.mono (by omega)) hv
                  rw [came_0] at h9
                  first | (rw [if_pos c187] at h9; exact h9) | (rw [if_neg c187] at h9; exact h9)
              · exact absurd rfl c173
    · refine xa_iconst eL_foretells_139 ?_
      refine xa_goto (tgt := 144) eL_foretells_140 (by decide) ?_
      refine xs_iload_10 eL_foretells_144 ?_
      refine xa_iconst eL_foretells_146 ?_
      refine xa_icmp_ne (tgt := 154) eL_foretells_147 (by decide) (b2i_r _) (by decide) (fun c147 => ?_) (fun c147 => ?_)
      · refine xa_iconst eL_foretells_154 ?_
        refine xa_icmp_ne (tgt := 176) eL_foretells_155 (by decide) (by omega) (by omega) (fun c155 => ?_) (fun c155 => ?_)
        · exfalso; first | omega | (rw [hw0, ← hb1] at *; omega) | (have h7 := hw0.trans hb1.symm; omega)
        · refine xs_iload_9 eL_foretells_158 ?_
          refine xa_bipush eL_foretells_160 (by decide) ?_
          refine xa_icmp_gt (tgt := 176) eL_foretells_162 (by decide) (by omega) (by decide) (fun c162 => ?_) (fun c162 => ?_)
          · exfalso; omega
          · refine xs_aload_0 eL_foretells_165 ?_
            refine g_X9_0 eL_foretells_166 lRL_10 ?_
            refine xa_iconst eL_foretells_169 ?_
            refine xbi_W2 (mi' := mL_save) (y := yL_save) eL_foretells_170 (xw_4 lRL_227 wy_L_save) rfl ⟨wd_L_save, by decide, by decide⟩ (Nat.le_of_ble_eq_true rfl) rfl ⟨by decide, by decide⟩ (w_save hB9 hV hT2 (fun S10 hB10 => ?_))
            · have hLS9 := hB9.L hL
              have hv := SV.mk hN (hB9.sq0 hN) (hB9.at (x := 31) (y := 0) (by decide) (by decide) (by unfold sct; omega)) hLS9.2.2.2.2.1
              have hLD := hv.L hL rfl
              generalize up (cpyS 0 2 4 N S9) 21 0 0 1 = D at hB10 hv hLD
              refine xa_if_eq (tgt := 178) eL_foretells_173 (by decide) (by decide) (fun c173 => ?_) (fun c173 => ?_)
              · refine xs_aload_0 eL_foretells_178 ?_
                refine g_X9_0 eL_foretells_179 lRL_10 ?_
                refine xs_iload_1 eL_foretells_182 ?_
                refine xa_iconst eL_foretells_183 ?_
                refine xbi_W30 (mi' := mL_process) (y := yL_process) eL_foretells_184 (xw_4 lRL_149 wy_L_process) rfl ⟨wd_L_process, by decide, by decide⟩ (Nat.le_of_ble_eq_true rfl) rfl (wp_1 hB10 hLD.1 hT2 hp ?_)
                rw [hv.p hp (by decide)]
                refine xa_if_ne (tgt := 194) eL_foretells_187 (by decide) (by have h9 := hV.P hp; unfold PQ at h9; omega) (fun c187 => ?_) (fun c187 => ?_)
                · refine xa_iconst eL_foretells_194 ?_
                  refine xs_istore_11 eL_foretells_195 rfl ?_
                  refine xa_iconst eL_foretells_197 ?_
                  refine xs_istore_12 eL_foretells_198 rfl ?_
                  have h9 := f_p2 hL hT hw (show q + 5 ≤ 950000 by omega) hp hn hws (fun D S' a1 a2 => hq D S' a1 (a2.mono (by omega))) (B := B) (S := S10) (D := D) (c13 := xj) (c14 := xj) (c15 := xj) (c16 := xj) (c17 := xj) (c18 := xj) (c19 := xj) rfl rfl rfl rfl rfl rfl rfl 0 (by omega) (hB10.mono (by omega)) hv
                  rw [came_0] at h9
                  first | (rw [if_pos c187] at h9; exact h9) | (rw [if_neg c187] at h9; exact h9)
                · refine xa_iconst eL_foretells_190 ?_
                  refine xa_goto (tgt := 195) eL_foretells_191 (by decide) ?_
                  refine xs_istore_11 eL_foretells_195 rfl ?_
                  refine xa_iconst eL_foretells_197 ?_
                  refine xs_istore_12 eL_foretells_198 rfl ?_
                  have h9 := f_p2 hL hT hw (show q + 5 ≤ 950000 by omega) hp hn hws (fun D S' a1 a2 => hq D S' a1 (a2.mono (by omega))) (B := B) (S := S10) (D := D) (c13 := xj) (c14 := xj) (c15 := xj) (c16 := xj) (c17 := xj) (c18 := xj) (c19 := xj) rfl rfl rfl rfl rfl rfl rfl 0 (by omega) (hB10.mono (by omega)) hv
                  rw [came_0] at h9
                  first | (rw [if_pos c187] at h9; exact h9) | (rw [if_neg c187] at h9; exact h9)
              · exact absurd rfl c173
      · refine xa_iconst eL_foretells_150 ?_
        refine xa_goto (tgt := 155) eL_foretells_151 (by decide) ?_
        refine xa_icmp_ne (tgt := 176) eL_foretells_155 (by decide) (by omega) (by omega) (fun c155 => ?_) (fun c155 => ?_)
        · exfalso; first | omega | (rw [hw0, ← hb1] at *; omega) | (have h7 := hw0.trans hb1.symm; omega)
        · refine xs_iload_9 eL_foretells_158 ?_
          refine xa_bipush eL_foretells_160 (by decide) ?_
          refine xa_icmp_gt (tgt := 176) eL_foretells_162 (by decide) (by omega) (by decide) (fun c162 => ?_) (fun c162 => ?_)
          · exfalso; omega
          · refine xs_aload_0 eL_foretells_165 ?_
            refine g_X9_0 eL_foretells_166 lRL_10 ?_
            refine xa_iconst eL_foretells_169 ?_
            refine xbi_W2 (mi' := mL_save) (y := yL_save) eL_foretells_170 (xw_4 lRL_227 wy_L_save) rfl ⟨wd_L_save, by decide, by decide⟩ (Nat.le_of_ble_eq_true rfl) rfl ⟨by decide, by decide⟩ (w_save hB9 hV hT2 (fun S10 hB10 => ?_))
            · have hLS9 := hB9.L hL
              have hv := SV.mk hN (hB9.sq0 hN) (hB9.at (x := 31) (y := 0) (by decide) (by decide) (by unfold sct; omega)) hLS9.2.2.2.2.1
              have hLD := hv.L hL rfl
              generalize up (cpyS 0 2 4 N S9) 21 0 0 1 = D at hB10 hv hLD
              refine xa_if_eq (tgt := 178) eL_foretells_173 (by decide) (by decide) (fun c173 => ?_) (fun c173 => ?_)
              · refine xs_aload_0 eL_foretells_178 ?_
                refine g_X9_0 eL_foretells_179 lRL_10 ?_
                refine xs_iload_1 eL_foretells_182 ?_
                refine xa_iconst eL_foretells_183 ?_
                refine xbi_W30 (mi' := mL_process) (y := yL_process) eL_foretells_184 (xw_4 lRL_149 wy_L_process) rfl ⟨wd_L_process, by decide, by decide⟩ (Nat.le_of_ble_eq_true rfl) rfl (wp_1 hB10 hLD.1 hT2 hp ?_)
                rw [hv.p hp (by decide)]
                refine xa_if_ne (tgt := 194) eL_foretells_187 (by decide) (by have h9 := hV.P hp; unfold PQ at h9; omega) (fun c187 => ?_) (fun c187 => ?_)
                · refine xa_iconst eL_foretells_194 ?_
                  refine xs_istore_11 eL_foretells_195 rfl ?_
                  refine xa_iconst eL_foretells_197 ?_
                  refine xs_istore_12 eL_foretells_198 rfl ?_
                  have h9 := f_p2 hL hT hw (show q + 5 ≤ 950000 by omega) hp hn hws (fun D S' a1 a2 => hq D S' a1 (a2.mono (by omega))) (B := B) (S := S10) (D := D) (c13 := xj) (c14 := xj) (c15 := xj) (c16 := xj) (c17 := xj) (c18 := xj) (c19 := xj) rfl rfl rfl rfl rfl rfl rfl 0 (by omega) (hB10.mono (by omega)) hv
                  rw [came_0] at h9
                  first | (rw [if_pos c187] at h9; exact h9) | (rw [if_neg c187] at h9; exact h9)
                · refine xa_iconst eL_foretells_190 ?_
                  refine xa_goto (tgt := 195) eL_foretells_191 (by decide) ?_
                  refine xs_istore_11 eL_foretells_195 rfl ?_
                  refine xa_iconst eL_foretells_197 ?_
                  refine xs_istore_12 eL_foretells_198 rfl ?_
                  have h9 := f_p2 hL hT hw (show q + 5 ≤ 950000 by omega) hp hn hws (fun D S' a1 a2 => hq D S' a1 (a2.mono (by omega))) (B := B) (S := S10) (D := D) (c13 := xj) (c14 := xj) (c15 := xj) (c16 := xj) (c17 := xj) (c18 := xj) (c19 := xj) rfl rfl rfl rfl rfl rfl rfl 0 (by omega) (hB10.mono (by omega)) hv
                  rw [came_0] at h9
                  first | (rw [if_pos c187] at h9; exact h9) | (rw [if_neg c187] at h9; exact h9)
              · exact absurd rfl c173
