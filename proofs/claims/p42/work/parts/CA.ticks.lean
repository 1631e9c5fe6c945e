/-! the law: a tick -/
def perA (i : Nat) : Int := [2, 3, 4, 5, 6, 8, 10, 12, 15, 20, 24, 30, 40, 60, 120].getD i 0
/-- all that holds between the law's rounds -/
def LIN (T : Int) (N : Nat) (C : xS) : Prop := VS 0 4 N T C ∧ Fut 0 N C ∧ EX N C ∧ (∀ i, i < 15 → C 31 0 i = perA i) ∧ (∀ j, j < 2 → C 21 0 j = 0 ∨ C 21 0 j = 1) ∧ (C 2 0 2 = 0 → ∀ j, j < N → C 10 j 0 = 0 → C 10 j 5 = 0)
theorem LIN.mono {T T' : Int} {N : Nat} {C : xS} (h : LIN T N C) (hT : T ≤ T') : LIN T' N C := ⟨h.1.mono hT, h.2⟩
theorem BS.L {q T : Int} {N : Nat} {C S : xS} (hB : BS q C S) (h : LIN T N C) : LIN T N S := by
  obtain ⟨h1, h2, h3, h4, h5, h6⟩ := h
  have hN := h1.2.1
  have e1 : S 1 0 = C 1 0 := hB.at (by decide) (by decide) (by unfold sct; omega)
  have e2 : S 2 0 = C 2 0 := hB.at (by decide) (by decide) (by unfold sct; omega)
  have e4 : ∀ p, p < 4 → S 4 p = C 4 p := fun p hp => hB.at (by decide) (by decide) (by unfold sct; omega)
  have e10 : ∀ j, j < N → S 10 j = C 10 j := fun j hj => hB.at (by decide) (by decide) (by unfold sct; omega)
  have eP : ∀ g, smP S g = smP C g := fun g => sm_congr (fun p hp => by show S 4 p g = C 4 p g; rw [e4 p hp])
  have eQ : ∀ g, smQ N S g = smQ N C g := fun g => sm_congr (fun j hj => by show S 10 j g = C 10 j g; rw [e10 j hj])
  refine ⟨hB.V h1, hB.fut hN h2, ?_, fun i hi => by rw [hB.at (by decide) (by decide) (by unfold sct; omega)]; exact h4 i hi, fun j hj => by rw [hB.at (by decide) (by decide) (by unfold sct; omega)]; exact h5 j hj, fun z j hj => by rw [e10 j hj]; rw [e2] at z; exact h6 z j hj⟩
  unfold EX mon at h3 ⊢
  simp only [eP, eQ, e1, e2]
  exact ⟨fun j hj => by rw [e10 j hj]; exact h3.1 j hj, h3.2⟩
theorem TFD.cg {N : Nat} {S C D : xS} {dU dS dW dF dI : Int} (h : TFD N S D dU dS dW dF dI) (e1 : S 1 0 = C 1 0) (e2 : S 2 0 = C 2 0) (e4 : ∀ p, p < 4 → S 4 p = C 4 p) (e10 : ∀ j, j < N → S 10 j = C 10 j) : TFD N C D dU dS dW dF dI := by
  have eP : ∀ g, smP S g = smP C g := fun g => sm_congr (fun p hp => by show S 4 p g = C 4 p g; rw [e4 p hp])
  have eQ : ∀ g, smQ N S g = smQ N C g := fun g => sm_congr (fun j hj => by show S 10 j g = C 10 j g; rw [e10 j hj])
  have eb : ∀ p, p < 4 → bef N S 4 p 1 = bef N C 4 p 1 := fun p hp => by rw [bef_4 hp, bef_4 hp, e2, e4 p hp]
  have ebP : smP (bef N S) 1 = smP (bef N C) 1 := sm_congr (fun p hp => eb p hp)
  have eM : mon S = mon C := by unfold mon; rw [eP, e1]
  obtain ⟨h1, h2, h3, h4, h5, h6, h7, h8⟩ := h
  refine ⟨h1, by rw [← e1]; exact h2, ?_, ?_, fun p hp => ?_, fun j hj => ?_, by rw [← e2]; exact h7, by rw [← e2]; exact h8⟩
  · rw [← ebP, ← eP, ← eP, ← eP, ← eP, ← eP, ← eM]; exact h3
  · rw [← eQ, ← eQ, ← eQ]; exact h4
  · rw [← eb p hp, ← e4 p hp]; exact h5 p hp
  · rw [← e2, ← e10 j hj]; exact h6 j hj
/-- the work array filled -/
def wkS (i : Nat) (C : xS) : xS := fun k j f => if k = 32 ∧ j = 0 ∧ f < i then C 4 f 1 else C k j f
theorem wkS_o {i k j : Nat} {C : xS} (h : k ≠ 32) : wkS i C k j = C k j := by funext f; unfold wkS; rw [if_neg (fun z => h z.1)]
theorem BS.wk {q : Int} {i : Nat} {C S : xS} (h : BS q (wkS i C) S) : BS q (wkS (i + 1) C) (up S 32 0 i (C 4 i 1)) := by
  refine ⟨fun x y h1 h2 h3 => ?_, by rw [up_k (by decide)]; exact h.2.1, by rw [up_k (by decide)]; exact h.2.2⟩
  funext f
  rw [up_app]
  by_cases c : x = 32 ∧ y = 0 ∧ f = i
  · rw [if_pos c, c.1, c.2.1, c.2.2]
    unfold wkS
    rw [if_pos ⟨rfl, rfl, by omega⟩]
  · rw [if_neg c, h.1 x y h1 h2 h3]
    unfold wkS
    by_cases c2 : x = 32 ∧ y = 0 ∧ f < i
    · rw [if_pos c2, if_pos ⟨c2.1, c2.2.1, by omega⟩]
    · rw [if_neg c2, if_neg (by omega)]
theorem VS.wk {T : Int} {N i : Nat} {C : xS} (h : VS 0 4 N T C) : VS 0 4 N T (wkS i C) := h.cls (fun x y e => wkS_o (by omega))
theorem mon_r {T : Int} {N : Nat} {C : xS} (h : VS 0 4 N T C) (hE : EX N C) : x64 (mon C) := by
  have h1 := h.le0 (p := 0) (by omega)
  have h2 := hE.2.2.2.2.2.2.2
  have h3 := (h.P (p := 0) (by omega)).1
  omega
theorem tick_more {C D : xS} {i : Nat} {b m : Int} (q5 : (D 4 i 1 = b ∨ D 4 i 1 = b - 1) ∧ D 4 i 3 = C 4 i 3 ∧ D 4 i 4 = C 4 i 4) (qC : (0 ≤ C 4 i 0 ∧ C 4 i 0 ≤ 1000000) ∧ (0 ≤ C 4 i 1 ∧ C 4 i 1 ≤ 9999) ∧ (0 ≤ C 4 i 3 ∧ C 4 i 3 ≤ 60) ∧ 0 ≤ C 4 i 4 ∧ C 4 i 4 ≤ 60) (qb : b = xarr (C 2 0 2) (C 4 i 3) (C 4 i 4) (C 4 i 1)) (hm : (0 < D 4 i 3 ∧ (C 2 0 2).tmod (D 4 i 3) = 0 ∧ m = D 4 i 4) ∨ (¬ (0 < D 4 i 3 ∧ (C 2 0 2).tmod (D 4 i 3) = 0) ∧ m = 0)) : xmin 9999 (C 4 i 1 + m) = b := by
  obtain ⟨-, e3, e4⟩ := q5
  rw [qb]
  unfold xarr
  rw [e3, e4] at hm
  rcases hm with ⟨h1, h2, h3⟩ | ⟨h1, h3⟩
  · rw [if_pos ⟨by omega, h2⟩, h3]
  · rw [if_neg (fun z => h1 ⟨by omega, z.2⟩), h3]
    unfold xmin
    split <;> omega
set_option maxHeartbeats 4000000 in
theorem k_ticks {w : xW} {S : xS} {B : String → xS → Prop} {A : Int → xS → Prop} {C : xS} {N : Nat} {T q : Int} (hB : BS q C S) (hL : LIN T N C) (hT : T ≤ 790000) (hq : ∀ D S', LIN (T + 3) N D → BS q D S' → A 1 S') : Ki w mL_ticks yL_ticks 1 6 [xp 30 0] S A B := by
  refine K.of rfl rfl rfl rfl (Nat.le_of_ble_eq_true rfl) rfl ?_
  obtain ⟨hV, g, hE, hper, h21, -⟩ := id hL
  have hT2 : T ≤ 800000 := by omega
  have hN := hV.2.1
  have hmr := mon_r hV hE
  have hgq : (0 ≤ C 1 0 8 ∧ C 1 0 8 ≤ T) ∧ (0 ≤ C 1 0 9 ∧ C 1 0 9 ≤ T) ∧ (0 ≤ C 1 0 10 ∧ C 1 0 10 ≤ T) ∧ (0 ≤ C 1 0 11 ∧ C 1 0 11 ≤ T) ∧ (0 ≤ C 1 0 12 ∧ C 1 0 12 ≤ T) ∧ C 1 0 13 = 0 := by have h9 := hV.2.2.2.1; unfold GQ at h9; have h8 := hE.2.1; omega
  have ht0 := hV.1.2.2.1
  have hpq : ∀ p, p < 4 → (0 ≤ C 4 p 0 ∧ C 4 p 0 ≤ 1000000) ∧ (0 ≤ C 4 p 1 ∧ C 4 p 1 ≤ 9999) ∧ (0 ≤ C 4 p 3 ∧ C 4 p 3 ≤ 60) ∧ 0 ≤ C 4 p 4 ∧ C 4 p 4 ≤ 60 := fun p hp => by have h9 := hV.P hp; unfold PQ at h9; omega
  have lp3 : ∀ (S2 D : xS) (z9 dU dS dW dF dI : Int), xr z9 → (0 ≤ dU ∧ 0 ≤ dS ∧ 0 ≤ dW ∧ 0 ≤ dF ∧ 0 ≤ dI ∧ dU + dS + dW + dF + dI = 1) → (D 1 0 10 = C 1 0 10 + dW ∧ D 1 0 12 = C 1 0 12 + dI) → smP D 1 = smP (bef N C) 1 - 1 + dW + dI → (∀ p, p < 4 → (D 4 p 1 = bef N C 4 p 1 ∨ D 4 p 1 = bef N C 4 p 1 - 1) ∧ D 4 p 3 = C 4 p 3 ∧ D 4 p 4 = C 4 p 4) → LIN (T + 3) N D → (∀ p, p < 4 → D 32 0 p = C 4 p 1) → (∀ p, p < 4 → 0 ≤ D 4 p 1 ∧ D 4 p 1 ≤ 9999) → BS q D S2 → ∀ i : Nat, i ≤ 4 → ∀ b13 b14 b15 : xV, xcat2 b13 = false → xcat2 b14 = false → xcat2 b15 = false → X w mL_ticks (xTG w (fun v S' => ∃ a, v = some (xi a) ∧ A a S') B) 1 6 260 [xp 30 0, xi (C 2 0 2), xi (C 1 0 8), xi (C 1 0 9), xi (C 1 0 10), xi (C 1 0 11), xi (C 1 0 12), xl (mon C), xj, xi z9, xi (D 1 0 10 - C 1 0 10), xi (sm (fun p => bef N C 4 p 1 - D 4 p 1) i), xi (i : Int), b13, b14, b15] [] S2 := by
    intro S2 D z9 dU dS dW dF dI hz9 t1 t2 t3 t5 hLD hwk hpD hB2
    obtain ⟨hVD, gD, ED, -, -⟩ := id hLD
    have hT3 : T + 3 ≤ 800000 := by omega
    refine nloop 4 (fun i hi ih b13 b14 b15 j13 j14 j15 => ?_)
    by_cases h4 : i = 4
    · subst h4
      have hs : sm (fun p => bef N C 4 p 1 - D 4 p 1) 4 = smP (bef N C) 1 - smP D 1 := by
        have e4 : ∀ f : Nat → Int, sm f 4 = 0 + f 0 + f 1 + f 2 + f 3 := fun f => rfl
        unfold smP
        rw [e4, e4, e4]
        omega
      refine xs_iload_12 eL_ticks_260 ?_
      refine xa_iconst eL_ticks_262 ?_
      refine xa_icmp_ge (tgt := 361) eL_ticks_263 (by decide) (by omega) (by omega) (fun c263 => ?_) (fun c263 => ?_)
      · refine xs_iload_11 eL_ticks_361 ?_
        refine xs_iload_10 eL_ticks_363 ?_
        refine xa_iconst eL_ticks_365 ?_
        refine xa_icmp_eq (tgt := 383) eL_ticks_366 (by decide) (by omega) (by decide) (fun c366 => ?_) (fun c366 => ?_)
        · refine xa_iconst eL_ticks_383 ?_
          refine xa_goto (tgt := 388) eL_ticks_384 (by decide) ?_
          refine xa_icmp_eq (tgt := 393) eL_ticks_388 (by decide) (by omega) (by decide) (fun c388 => ?_) (fun c388 => ?_)
          · refine xs_aload_0 eL_ticks_393 ?_
            refine xbi_V00 (mi' := mL_jobs) (y := yL_jobs) eL_ticks_394 (xw_5 lRL_209 wy_L_jobs) rfl ⟨wd_L_jobs, by decide, by decide⟩ (by decide) (fun _ => rfl) rfl (Nat.le_of_ble_eq_true rfl) rfl (k_jobs hB2 hVD hT3 gD ED ?_)
            · refine xa_if_eq (tgt := 411) eL_ticks_397 (by decide) (by decide) (fun c397 => ?_) (fun c397 => ?_)
              · exact absurd c397 (by decide)
              · refine xs_aload_0 eL_ticks_400 ?_
                refine xbi_V0 (mi' := mL_sums) (y := yL_sums) eL_ticks_401 (xw_5 lRL_212 wy_L_sums) rfl ⟨wd_L_sums, by decide, by decide⟩ (by decide) (fun _ => rfl) rfl (Nat.le_of_ble_eq_true rfl) rfl ⟨by decide, by decide⟩ (k_sums hB2 hVD hT3 gD ED (fun S4 hB4 => ?_))
                · refine xa_if_eq (tgt := 411) eL_ticks_404 (by decide) (by decide) (fun c404 => ?_) (fun c404 => ?_)
                  · exact absurd c404 (by decide)
                  · refine xa_iconst eL_ticks_407 ?_
                    refine xa_goto (tgt := 412) eL_ticks_408 (by decide) ?_
                    exact xa_zret eL_ticks_412 rfl (by omega) ⟨_, rfl, (hq _ _ hLD hB4)⟩
          · exfalso; omega
        · refine xs_aload_0 eL_ticks_369 ?_
          refine g_X9_0 eL_ticks_370 lRL_10 ?_
          refine xa_bipush eL_ticks_373 (by decide) ?_
          refine xbi_W20 (mi' := mL_count) (y := yL_count) eL_ticks_375 (xw_4 lRL_146 wy_L_count) rfl ⟨wd_L_count, by decide, by decide⟩ (Nat.le_of_ble_eq_true rfl) rfl (wc_11 hB2 hVD hT3 ?_)
          refine xs_iload_6 eL_ticks_378 ?_
          refine xa_icmp_le (tgt := 387) eL_ticks_380 (by decide) (by omega) (by omega) (fun c380 => ?_) (fun c380 => ?_)
          · refine xa_iconst eL_ticks_387 ?_
            refine xa_icmp_eq (tgt := 393) eL_ticks_388 (by decide) (by omega) (by decide) (fun c388 => ?_) (fun c388 => ?_)
            · refine xs_aload_0 eL_ticks_393 ?_
              refine xbi_V00 (mi' := mL_jobs) (y := yL_jobs) eL_ticks_394 (xw_5 lRL_209 wy_L_jobs) rfl ⟨wd_L_jobs, by decide, by decide⟩ (by decide) (fun _ => rfl) rfl (Nat.le_of_ble_eq_true rfl) rfl (k_jobs hB2 hVD hT3 gD ED ?_)
              · refine xa_if_eq (tgt := 411) eL_ticks_397 (by decide) (by decide) (fun c397 => ?_) (fun c397 => ?_)
                · exact absurd c397 (by decide)
                · refine xs_aload_0 eL_ticks_400 ?_
                  refine xbi_V0 (mi' := mL_sums) (y := yL_sums) eL_ticks_401 (xw_5 lRL_212 wy_L_sums) rfl ⟨wd_L_sums, by decide, by decide⟩ (by decide) (fun _ => rfl) rfl (Nat.le_of_ble_eq_true rfl) rfl ⟨by decide, by decide⟩ (k_sums hB2 hVD hT3 gD ED (fun S4 hB4 => ?_))
                  · refine xa_if_eq (tgt := 411) eL_ticks_404 (by decide) (by decide) (fun c404 => ?_) (fun c404 => ?_)
                    · exact absurd c404 (by decide)
                    · refine xa_iconst eL_ticks_407 ?_
                      refine xa_goto (tgt := 412) eL_ticks_408 (by decide) ?_
                      exact xa_zret eL_ticks_412 rfl (by omega) ⟨_, rfl, (hq _ _ hLD hB4)⟩
            · exfalso; omega
          · refine xa_iconst eL_ticks_383 ?_
            refine xa_goto (tgt := 388) eL_ticks_384 (by decide) ?_
            refine xa_icmp_eq (tgt := 393) eL_ticks_388 (by decide) (by omega) (by decide) (fun c388 => ?_) (fun c388 => ?_)
            · refine xs_aload_0 eL_ticks_393 ?_
              refine xbi_V00 (mi' := mL_jobs) (y := yL_jobs) eL_ticks_394 (xw_5 lRL_209 wy_L_jobs) rfl ⟨wd_L_jobs, by decide, by decide⟩ (by decide) (fun _ => rfl) rfl (Nat.le_of_ble_eq_true rfl) rfl (k_jobs hB2 hVD hT3 gD ED ?_)
              · refine xa_if_eq (tgt := 411) eL_ticks_397 (by decide) (by decide) (fun c397 => ?_) (fun c397 => ?_)
                · exact absurd c397 (by decide)
                · refine xs_aload_0 eL_ticks_400 ?_
                  refine xbi_V0 (mi' := mL_sums) (y := yL_sums) eL_ticks_401 (xw_5 lRL_212 wy_L_sums) rfl ⟨wd_L_sums, by decide, by decide⟩ (by decide) (fun _ => rfl) rfl (Nat.le_of_ble_eq_true rfl) rfl ⟨by decide, by decide⟩ (k_sums hB2 hVD hT3 gD ED (fun S4 hB4 => ?_))
                  · refine xa_if_eq (tgt := 411) eL_ticks_404 (by decide) (by decide) (fun c404 => ?_) (fun c404 => ?_)
                    · exact absurd c404 (by decide)
                    · refine xa_iconst eL_ticks_407 ?_
                      refine xa_goto (tgt := 412) eL_ticks_408 (by decide) ?_
                      exact xa_zret eL_ticks_412 rfl (by omega) ⟨_, rfl, (hq _ _ hLD hB4)⟩
            · exfalso; omega
      · exfalso; omega
    · have q5 := t5 i (by omega)
      have qC := hpq i (by omega)
      have qD := hpD i (by omega)
      have qw := hwk i (by omega)
      have qb : bef N C 4 i 1 = xarr (C 2 0 2) (C 4 i 3) (C 4 i 4) (C 4 i 1) := by rw [bef_4 (by omega), if_pos rfl]
      refine xs_iload_12 eL_ticks_260 ?_
      refine xa_iconst eL_ticks_262 ?_
      refine xa_icmp_ge (tgt := 361) eL_ticks_263 (by decide) (by omega) (by omega) (fun c263 => ?_) (fun c263 => ?_)
      · exfalso; omega
      · refine xs_aload_0 eL_ticks_266 ?_
        refine g_X9_0 eL_ticks_267 lRL_10 ?_
        refine xs_iload_12 eL_ticks_270 ?_
        refine xa_iconst eL_ticks_272 ?_
        refine xbi_W30 (mi' := mL_process) (y := yL_process) eL_ticks_273 (xw_4 lRL_149 wy_L_process) rfl ⟨wd_L_process, by decide, by decide⟩ (Nat.le_of_ble_eq_true rfl) rfl (wp_3 hB2 hVD hT3 (show i < 4 by omega) ?_)
        refine xs_istore_13 eL_ticks_276 rfl ?_
        refine xs_iload_13 eL_ticks_278 ?_
        refine xa_if_le (tgt := 303) eL_ticks_280 (by decide) (by omega) (fun c280 => ?_) (fun c280 => ?_)
        · refine xa_iconst eL_ticks_303 ?_
          refine xs_istore_14 eL_ticks_304 rfl ?_
          refine xa_sipush eL_ticks_306 (by decide) ?_
          refine xs_aload_0 eL_ticks_309 ?_
          refine g_X9_4 eL_ticks_310 lRL_20 ?_
          refine xs_iload_12 eL_ticks_313 ?_
          refine gar_32 eL_ticks_315 (by omega) (fun r315 => ?_)
          try simp only [Int.toNat_natCast] at r315 ⊢
          rw [hB2.at (by decide) (by decide) (by unfold sct; omega), qw]
          refine xs_iload_14 eL_ticks_316 ?_
          refine xa_iadd eL_ticks_318 ?_
          refine xa_min eL_ticks_319 lRL_206 lm_min1 li_Math lm_min2 (by decide) (Nat.le_of_ble_eq_true rfl) rfl (by decide) (by omega) ?_
          have qg : ∀ m : Int, ((0 < D 4 i 3 ∧ (C 2 0 2).tmod (D 4 i 3) = 0 ∧ m = D 4 i 4) ∨ (¬ (0 < D 4 i 3 ∧ (C 2 0 2).tmod (D 4 i 3) = 0) ∧ m = 0)) → xmin 9999 (C 4 i 1 + m) = bef N C 4 i 1 := fun m hm => tick_more q5 qC qb hm
          first | rw [qg 0 (Or.inr ⟨by omega, rfl⟩)] | rw [qg 0 (Or.inr ⟨fun z => c287 z.2, rfl⟩)] | rw [qg (D 4 i 4) (Or.inl ⟨by omega, c287, rfl⟩)]
          clear qg
          refine xs_aload_0 eL_ticks_322 ?_
          refine g_X9_0 eL_ticks_323 lRL_10 ?_
          refine xs_iload_12 eL_ticks_326 ?_
          refine xa_iconst eL_ticks_328 ?_
          refine xbi_W30 (mi' := mL_process) (y := yL_process) eL_ticks_329 (xw_4 lRL_149 wy_L_process) rfl ⟨wd_L_process, by decide, by decide⟩ (Nat.le_of_ble_eq_true rfl) rfl (wp_1 hB2 hVD hT3 (show i < 4 by omega) ?_)
          refine xa_isub eL_ticks_332 ?_
          refine xs_istore_15 eL_ticks_333 rfl ?_
          refine xs_iload_15 eL_ticks_335 ?_
          refine xa_if_lt (tgt := 346) eL_ticks_337 (by decide) (by omega) (fun c337 => ?_) (fun c337 => ?_)
          · exfalso; omega
          · refine xs_iload_15 eL_ticks_340 ?_
            refine xa_iconst eL_ticks_342 ?_
            refine xa_icmp_le (tgt := 348) eL_ticks_343 (by decide) (by omega) (by decide) (fun c343 => ?_) (fun c343 => ?_)
            · refine xs_iload_11 eL_ticks_348 ?_
              refine xs_iload_15 eL_ticks_350 ?_
              refine xa_iadd eL_ticks_352 ?_
              refine xs_istore_11 eL_ticks_353 rfl ?_
              refine xs_iinc_12 eL_ticks_355 rfl ?_
              refine xa_goto (tgt := 260) eL_ticks_358 (by decide) ?_
              exact ih (i + 1) (by omega) (by omega) _ _ _ rfl rfl rfl
            · exfalso; omega
        · refine xs_iload_1 eL_ticks_283 ?_
          refine xs_iload_13 eL_ticks_284 ?_
          refine xa_irem eL_ticks_286 (by omega) (by omega) (by omega) ?_
          refine xa_if_ne (tgt := 303) eL_ticks_287 (by decide) (by have h8 := Int.tmod_nonneg (D 4 i 3) ht0.1; have h9 := Int.tmod_lt_of_pos (C 2 0 2) (show 0 < D 4 i 3 by omega); omega) (fun c287 => ?_) (fun c287 => ?_)
          · refine xa_iconst eL_ticks_303 ?_
            refine xs_istore_14 eL_ticks_304 rfl ?_
            refine xa_sipush eL_ticks_306 (by decide) ?_
            refine xs_aload_0 eL_ticks_309 ?_
            refine g_X9_4 eL_ticks_310 lRL_20 ?_
            refine xs_iload_12 eL_ticks_313 ?_
            refine gar_32 eL_ticks_315 (by omega) (fun r315 => ?_)
            try simp only [Int.toNat_natCast] at r315 ⊢
            rw [hB2.at (by decide) (by decide) (by unfold sct; omega), qw]
            refine xs_iload_14 eL_ticks_316 ?_
            refine xa_iadd eL_ticks_318 ?_
            refine xa_min eL_ticks_319 lRL_206 lm_min1 li_Math lm_min2 (by decide) (Nat.le_of_ble_eq_true rfl) rfl (by decide) (by omega) ?_
            have qg : ∀ m : Int, ((0 < D 4 i 3 ∧ (C 2 0 2).tmod (D 4 i 3) = 0 ∧ m = D 4 i 4) ∨ (¬ (0 < D 4 i 3 ∧ (C 2 0 2).tmod (D 4 i 3) = 0) ∧ m = 0)) → xmin 9999 (C 4 i 1 + m) = bef N C 4 i 1 := fun m hm => tick_more q5 qC qb hm
            first | rw [qg 0 (Or.inr ⟨by omega, rfl⟩)] | rw [qg 0 (Or.inr ⟨fun z => c287 z.2, rfl⟩)] | rw [qg (D 4 i 4) (Or.inl ⟨by omega, c287, rfl⟩)]
            clear qg
            refine xs_aload_0 eL_ticks_322 ?_
            refine g_X9_0 eL_ticks_323 lRL_10 ?_
            refine xs_iload_12 eL_ticks_326 ?_
            refine xa_iconst eL_ticks_328 ?_
            refine xbi_W30 (mi' := mL_process) (y := yL_process) eL_ticks_329 (xw_4 lRL_149 wy_L_process) rfl ⟨wd_L_process, by decide, by decide⟩ (Nat.le_of_ble_eq_true rfl) rfl (wp_1 hB2 hVD hT3 (show i < 4 by omega) ?_)
            refine xa_isub eL_ticks_332 ?_
            refine xs_istore_15 eL_ticks_333 rfl ?_
            refine xs_iload_15 eL_ticks_335 ?_
            refine xa_if_lt (tgt := 346) eL_ticks_337 (by decide) (by omega) (fun c337 => ?_) (fun c337 => ?_)
            · exfalso; omega
            · refine xs_iload_15 eL_ticks_340 ?_
              refine xa_iconst eL_ticks_342 ?_
              refine xa_icmp_le (tgt := 348) eL_ticks_343 (by decide) (by omega) (by decide) (fun c343 => ?_) (fun c343 => ?_)
              · refine xs_iload_11 eL_ticks_348 ?_
                refine xs_iload_15 eL_ticks_350 ?_
                refine xa_iadd eL_ticks_352 ?_
                refine xs_istore_11 eL_ticks_353 rfl ?_
                refine xs_iinc_12 eL_ticks_355 rfl ?_
                refine xa_goto (tgt := 260) eL_ticks_358 (by decide) ?_
                exact ih (i + 1) (by omega) (by omega) _ _ _ rfl rfl rfl
              · exfalso; omega
          · refine xs_aload_0 eL_ticks_290 ?_
            refine g_X9_0 eL_ticks_291 lRL_10 ?_
            refine xs_iload_12 eL_ticks_294 ?_
            refine xa_iconst eL_ticks_296 ?_
            refine xbi_W30 (mi' := mL_process) (y := yL_process) eL_ticks_297 (xw_4 lRL_149 wy_L_process) rfl ⟨wd_L_process, by decide, by decide⟩ (Nat.le_of_ble_eq_true rfl) rfl (wp_4 hB2 hVD hT3 (show i < 4 by omega) ?_)
            refine xa_goto (tgt := 304) eL_ticks_300 (by decide) ?_
            refine xs_istore_14 eL_ticks_304 rfl ?_
            refine xa_sipush eL_ticks_306 (by decide) ?_
            refine xs_aload_0 eL_ticks_309 ?_
            refine g_X9_4 eL_ticks_310 lRL_20 ?_
            refine xs_iload_12 eL_ticks_313 ?_
            refine gar_32 eL_ticks_315 (by omega) (fun r315 => ?_)
            try simp only [Int.toNat_natCast] at r315 ⊢
            rw [hB2.at (by decide) (by decide) (by unfold sct; omega), qw]
            refine xs_iload_14 eL_ticks_316 ?_
            refine xa_iadd eL_ticks_318 ?_
            refine xa_min eL_ticks_319 lRL_206 lm_min1 li_Math lm_min2 (by decide) (Nat.le_of_ble_eq_true rfl) rfl (by decide) (by omega) ?_
            have qg : ∀ m : Int, ((0 < D 4 i 3 ∧ (C 2 0 2).tmod (D 4 i 3) = 0 ∧ m = D 4 i 4) ∨ (¬ (0 < D 4 i 3 ∧ (C 2 0 2).tmod (D 4 i 3) = 0) ∧ m = 0)) → xmin 9999 (C 4 i 1 + m) = bef N C 4 i 1 := fun m hm => tick_more q5 qC qb hm
            first | rw [qg 0 (Or.inr ⟨by omega, rfl⟩)] | rw [qg 0 (Or.inr ⟨fun z => c287 z.2, rfl⟩)] | rw [qg (D 4 i 4) (Or.inl ⟨by omega, c287, rfl⟩)]
            clear qg
            refine xs_aload_0 eL_ticks_322 ?_
            refine g_X9_0 eL_ticks_323 lRL_10 ?_
            refine xs_iload_12 eL_ticks_326 ?_
            refine xa_iconst eL_ticks_328 ?_
            refine xbi_W30 (mi' := mL_process) (y := yL_process) eL_ticks_329 (xw_4 lRL_149 wy_L_process) rfl ⟨wd_L_process, by decide, by decide⟩ (Nat.le_of_ble_eq_true rfl) rfl (wp_1 hB2 hVD hT3 (show i < 4 by omega) ?_)
            refine xa_isub eL_ticks_332 ?_
            refine xs_istore_15 eL_ticks_333 rfl ?_
            refine xs_iload_15 eL_ticks_335 ?_
            refine xa_if_lt (tgt := 346) eL_ticks_337 (by decide) (by omega) (fun c337 => ?_) (fun c337 => ?_)
            · exfalso; omega
            · refine xs_iload_15 eL_ticks_340 ?_
              refine xa_iconst eL_ticks_342 ?_
              refine xa_icmp_le (tgt := 348) eL_ticks_343 (by decide) (by omega) (by decide) (fun c343 => ?_) (fun c343 => ?_)
              · refine xs_iload_11 eL_ticks_348 ?_
                refine xs_iload_15 eL_ticks_350 ?_
                refine xa_iadd eL_ticks_352 ?_
                refine xs_istore_11 eL_ticks_353 rfl ?_
                refine xs_iinc_12 eL_ticks_355 rfl ?_
                refine xa_goto (tgt := 260) eL_ticks_358 (by decide) ?_
                exact ih (i + 1) (by omega) (by omega) _ _ _ rfl rfl rfl
              · exfalso; omega
  have ph2 : ∀ (z9 : Int) (S1 : xS) (a10 a11 a12 a13 a14 a15 : xV), xr z9 → xcat2 a10 = false → xcat2 a11 = false → xcat2 a12 = false → xcat2 a13 = false → xcat2 a14 = false → xcat2 a15 = false → BS q (wkS 4 C) S1 → X w mL_ticks (xTG w (fun v S' => ∃ a, v = some (xi a) ∧ A a S') B) 1 6 128 [xp 30 0, xi (C 2 0 2), xi (C 1 0 8), xi (C 1 0 9), xi (C 1 0 10), xi (C 1 0 11), xi (C 1 0 12), xl (mon C), xj, xi z9, a10, a11, a12, a13, a14, a15] [] S1 := by
    intro z9 S1 a10 a11 a12 a13 a14 a15 hz9 j10 j11 j12 j13 j14 j15 hB1
    have hV1 : VS 0 4 N T (wkS 4 C) := hV.wk
    have k1 : S1 1 0 = C 1 0 := (hB1.at (by decide) (by decide) (by unfold sct; omega)).trans (wkS_o (by decide))
    have k2 : S1 2 0 = C 2 0 := (hB1.at (by decide) (by decide) (by unfold sct; omega)).trans (wkS_o (by decide))
    have k4 : ∀ p, p < 4 → S1 4 p = C 4 p := fun p hp => (hB1.at (by decide) (by decide) (by unfold sct; omega)).trans (wkS_o (by decide))
    have k10 : ∀ j, j < N → S1 10 j = C 10 j := fun j hj => (hB1.at (by decide) (by decide) (by unfold sct; omega)).trans (wkS_o (by decide))
    have kP : ∀ g, smP S1 g = smP C g := fun g => sm_congr (fun p hp => by show S1 4 p g = C 4 p g; rw [k4 p hp])
    have kQ : ∀ g, smQ N S1 g = smQ N C g := fun g => sm_congr (fun j hj => by show S1 10 j g = C 10 j g; rw [k10 j hj])
    have VS1 : VS 0 4 N T S1 := hB1.V hV1
    have gS1 : Fut 0 N S1 := g.of k2 (fun j hj => by rw [e32]; exact k10 j hj)
    have ES1 : EX N S1 := by unfold EX mon at hE ⊢; simp only [kP, kQ, k1, k2]; exact ⟨fun j hj => by rw [k10 j hj]; exact hE.1 j hj, hE.2⟩
    have hfr := tckS_fr VS1
    obtain ⟨dU, dS, dW, dF, dI, hTF⟩ := tck_TFD VS1 gS1 ES1.2.2.2.2.2.2.2
    replace hTF := hTF.cg k1 k2 k4 k10
    have hVD : VS 0 4 N (T + 3) (tckS 0 4 N S1) := by have h9 := VS1.itr 1; exact h9
    have gD : Fut 0 N (tckS 0 4 N S1) := by have h9 := gS1.itr (n := 4) 1; exact h9
    have ED : EX N (tckS 0 4 N S1) := ES1.tck VS1 gS1
    have hLD : LIN (T + 3) N (tckS 0 4 N S1) := ⟨hVD, gD, ED, fun i hi => by rw [hfr 31 0 (by omega) (by omega) (by omega) (by omega) (by omega) (by omega), hB1.at (by decide) (by decide) (by unfold sct; omega), wkS_o (by decide)]; exact hper i hi, fun j hj => by rw [hfr 21 0 (by omega) (by omega) (by omega) (by omega) (by omega) (by omega), hB1.at (by decide) (by decide) (by unfold sct; omega), wkS_o (by decide)]; exact h21 j hj, fun z => by have h9 := hTF.2.2.2.2.2.2.1; omega⟩
    have hwk : ∀ p, p < 4 → tckS 0 4 N S1 32 0 p = C 4 p 1 := fun p hp => by rw [hfr 32 0 (by omega) (by omega) (by omega) (by omega) (by omega) (by omega), hB1.at (by decide) (by decide) (by unfold sct; omega)]; unfold wkS; rw [if_pos ⟨rfl, rfl, hp⟩]
    have hmD := mon_r hVD ED
    have hpD : ∀ p, p < 4 → 0 ≤ tckS 0 4 N S1 4 p 1 ∧ tckS 0 4 N S1 4 p 1 ≤ 9999 := fun p hp => by have h9 := hVD.P hp; unfold PQ at h9; omega
    refine xs_aload_0 eL_ticks_128 ?_
    refine g_X9_0 eL_ticks_129 lRL_10 ?_
    refine xa_iconst eL_ticks_132 ?_
    refine xbi_W20 (mi' := mL_run) (y := yL_run) eL_ticks_133 (xw_4 lRL_204 wy_L_run) rfl ⟨wd_L_run, by decide, by decide⟩ (Nat.le_of_ble_eq_true rfl) rfl (w_run hB1 hV1 hT2 (m := 1) (by omega) (fun S2 hB2 => ?_))
    change BS q (tckS 0 4 N S1) S2 at hB2
    change X w _ _ _ _ _ _ (xi (tckS 0 4 N S1 1 0 10 - S1 1 0 10) :: _) _
    rw [k1]
    have hT3 : T + 3 ≤ 800000 := by omega
    generalize tckS 0 4 N S1 = D at hTF hVD gD ED hLD hwk hmD hpD hB2 ⊢
    obtain ⟨t1, t2, t3, t4, t5, t6, t7, t8⟩ := hTF
    refine xs_istore_10 eL_ticks_136 rfl ?_
    refine xs_aload_0 eL_ticks_138 ?_
    refine g_X9_0 eL_ticks_139 lRL_10 ?_
    refine xa_iconst eL_ticks_142 ?_
    refine xbi_W20 (mi' := mL_count) (y := yL_count) eL_ticks_143 (xw_4 lRL_146 wy_L_count) rfl ⟨wd_L_count, by decide, by decide⟩ (Nat.le_of_ble_eq_true rfl) rfl (wc_0 hB2 hVD hT3 ?_)
    refine xs_iload_1 eL_ticks_146 ?_
    refine xa_iconst eL_ticks_147 ?_
    refine xa_iadd eL_ticks_148 ?_
    refine xa_icmp_ne (tgt := 252) eL_ticks_149 (by decide) (by omega) (by omega) (fun c149 => ?_) (fun c149 => ?_)
    · exfalso; omega
    · refine xs_aload_0 eL_ticks_152 ?_
      refine g_X9_0 eL_ticks_153 lRL_10 ?_
      refine xa_bipush eL_ticks_156 (by decide) ?_
      refine xbi_W20 (mi' := mL_count) (y := yL_count) eL_ticks_158 (xw_4 lRL_146 wy_L_count) rfl ⟨wd_L_count, by decide, by decide⟩ (Nat.le_of_ble_eq_true rfl) rfl (wc_9 hB2 hVD hT3 ?_)
      refine xs_iload_4 eL_ticks_161 ?_
      refine xs_iload_10 eL_ticks_163 ?_
      refine xa_iadd eL_ticks_165 ?_
      refine xa_icmp_ne (tgt := 252) eL_ticks_166 (by decide) (by omega) (by omega) (fun c166 => ?_) (fun c166 => ?_)
      · exfalso; omega
      · refine xs_aload_0 eL_ticks_169 ?_
        refine g_X9_0 eL_ticks_170 lRL_10 ?_
        refine xa_bipush eL_ticks_173 (by decide) ?_
        refine xbi_W20 (mi' := mL_count) (y := yL_count) eL_ticks_175 (xw_4 lRL_146 wy_L_count) rfl ⟨wd_L_count, by decide, by decide⟩ (Nat.le_of_ble_eq_true rfl) rfl (wc_7 hB2 hVD hT3 ?_)
        refine xs_iload_2 eL_ticks_178 ?_
        refine xa_isub eL_ticks_179 ?_
        refine xs_aload_0 eL_ticks_180 ?_
        refine g_X9_0 eL_ticks_181 lRL_10 ?_
        refine xa_bipush eL_ticks_184 (by decide) ?_
        refine xbi_W20 (mi' := mL_count) (y := yL_count) eL_ticks_186 (xw_4 lRL_146 wy_L_count) rfl ⟨wd_L_count, by decide, by decide⟩ (Nat.le_of_ble_eq_true rfl) rfl (wc_8 hB2 hVD hT3 ?_)
        refine xa_iadd eL_ticks_189 ?_
        refine xs_iload_3 eL_ticks_190 ?_
        refine xa_isub eL_ticks_191 ?_
        refine xs_iload_10 eL_ticks_192 ?_
        refine xa_iadd eL_ticks_194 ?_
        refine xs_aload_0 eL_ticks_195 ?_
        refine g_X9_0 eL_ticks_196 lRL_10 ?_
        refine xa_bipush eL_ticks_199 (by decide) ?_
        refine xbi_W20 (mi' := mL_count) (y := yL_count) eL_ticks_201 (xw_4 lRL_146 wy_L_count) rfl ⟨wd_L_count, by decide, by decide⟩ (Nat.le_of_ble_eq_true rfl) rfl (wc_10 hB2 hVD hT3 ?_)
        refine xa_iadd eL_ticks_204 ?_
        refine xs_iload_5 eL_ticks_205 ?_
        refine xa_isub eL_ticks_207 ?_
        refine xs_aload_0 eL_ticks_208 ?_
        refine g_X9_0 eL_ticks_209 lRL_10 ?_
        refine xa_bipush eL_ticks_212 (by decide) ?_
        refine xbi_W20 (mi' := mL_count) (y := yL_count) eL_ticks_214 (xw_4 lRL_146 wy_L_count) rfl ⟨wd_L_count, by decide, by decide⟩ (Nat.le_of_ble_eq_true rfl) rfl (wc_11 hB2 hVD hT3 ?_)
        refine xa_iadd eL_ticks_217 ?_
        refine xs_iload_6 eL_ticks_218 ?_
        refine xa_isub eL_ticks_220 ?_
        refine xa_iconst eL_ticks_221 ?_
        refine xa_icmp_ne (tgt := 252) eL_ticks_222 (by decide) (by omega) (by decide) (fun c222 => ?_) (fun c222 => ?_)
        · exfalso; omega
        · refine xs_aload_0 eL_ticks_225 ?_
          refine g_X9_0 eL_ticks_226 lRL_10 ?_
          refine xa_bipush eL_ticks_229 (by decide) ?_
          refine xbi_W20 (mi' := mL_count) (y := yL_count) eL_ticks_231 (xw_4 lRL_146 wy_L_count) rfl ⟨wd_L_count, by decide, by decide⟩ (Nat.le_of_ble_eq_true rfl) rfl (wc_12 hB2 hVD hT3 ?_)
          refine xa_if_ne (tgt := 252) eL_ticks_234 (by decide) (by omega) (fun c234 => ?_) (fun c234 => ?_)
          · exfalso; omega
          · refine xs_iload_9 eL_ticks_237 ?_
            refine xa_if_ne (tgt := 254) eL_ticks_239 (by decide) hz9 (fun c239 => ?_) (fun c239 => ?_)
            · refine xa_iconst eL_ticks_254 ?_
              refine xs_istore_11 eL_ticks_255 rfl ?_
              refine xa_iconst eL_ticks_257 ?_
              refine xs_istore_12 eL_ticks_258 rfl ?_
              exact lp3 S2 D z9 dU dS dW dF dI hz9 t1 ⟨t2.2.2.1, t2.2.2.2.2.1⟩ t3.1 t5 hLD hwk hpD hB2 0 (by omega) _ _ _ (by assumption) (by assumption) (by assumption)
            · refine xs_aload_0 eL_ticks_242 ?_
              refine xbl_V00 (mi' := mL_money) (y := yL_money) eL_ticks_243 (xw_5 lRL_177 wy_L_money) rfl ⟨wd_L_money, by decide, by decide⟩ (by decide) (fun _ => rfl) rfl (Nat.le_of_ble_eq_true rfl) rfl (k_money hB2 hVD hT3 ?_)
              refine xs_lload_7 eL_ticks_246 ?_
              refine xa_lcmp eL_ticks_248 hmD hmr ?_
              refine xa_ifc_eq (tgt := 254) eL_ticks_249 (by decide) (fun c249 => ?_) (fun c249 => ?_)
              · refine xa_iconst eL_ticks_254 ?_
                refine xs_istore_11 eL_ticks_255 rfl ?_
                refine xa_iconst eL_ticks_257 ?_
                refine xs_istore_12 eL_ticks_258 rfl ?_
                exact lp3 S2 D z9 dU dS dW dF dI hz9 t1 ⟨t2.2.2.1, t2.2.2.2.2.1⟩ t3.1 t5 hLD hwk hpD hB2 0 (by omega) _ _ _ (by assumption) (by assumption) (by assumption)
              · exfalso; omega
  have lp1 : ∀ i : Nat, i ≤ 4 → ∀ (z9 : Int) (S1 : xS), xr z9 → BS q (wkS i C) S1 → ∀ a11 a12 a13 a14 a15 : xV, xcat2 a11 = false → xcat2 a12 = false → xcat2 a13 = false → xcat2 a14 = false → xcat2 a15 = false → X w mL_ticks (xTG w (fun v S' => ∃ a, v = some (xi a) ∧ A a S') B) 1 6 74 [xp 30 0, xi (C 2 0 2), xi (C 1 0 8), xi (C 1 0 9), xi (C 1 0 10), xi (C 1 0 11), xi (C 1 0 12), xl (mon C), xj, xi z9, xi (i : Int), a11, a12, a13, a14, a15] [] S1 := by
    refine nloop 4 (fun i hi ih z9 S1 hz9 hB1 a11 a12 a13 a14 a15 j11 j12 j13 j14 j15 => ?_)
    by_cases h4 : i = 4
    · subst h4
      refine xs_iload_10 eL_ticks_74 ?_
      refine xa_iconst eL_ticks_76 ?_
      refine xa_icmp_ge (tgt := 128) eL_ticks_77 (by decide) (by omega) (by omega) (fun c77 => ?_) (fun c77 => ?_)
      · exact ph2 z9 S1 _ _ _ _ _ _ hz9 rfl j11 j12 j13 j14 j15 hB1
      · exfalso; omega
    · have qC := hpq i (by omega)
      refine xs_iload_10 eL_ticks_74 ?_
      refine xa_iconst eL_ticks_76 ?_
      refine xa_icmp_ge (tgt := 128) eL_ticks_77 (by decide) (by omega) (by omega) (fun c77 => ?_) (fun c77 => ?_)
      · exfalso; omega
      · refine xs_aload_0 eL_ticks_80 ?_
        refine g_X9_4 eL_ticks_81 lRL_20 ?_
        refine xs_iload_10 eL_ticks_84 ?_
        refine xs_aload_0 eL_ticks_86 ?_
        refine g_X9_0 eL_ticks_87 lRL_10 ?_
        refine xs_iload_10 eL_ticks_90 ?_
        refine xa_iconst eL_ticks_92 ?_
        refine xbi_W30 (mi' := mL_process) (y := yL_process) eL_ticks_93 (xw_4 lRL_149 wy_L_process) rfl ⟨wd_L_process, by decide, by decide⟩ (Nat.le_of_ble_eq_true rfl) rfl (wp_1 hB1 hV.wk hT2 (show i < 4 by omega) ?_)
        rw [wkS_o (by decide)]
        refine pa_32 eL_ticks_96 (by omega) (by omega) ?_
        rw [Int.toNat_natCast]
        replace hB1 := hB1.wk
        generalize up S1 32 0 i (C 4 i 1) = S5 at hB1 ⊢
        refine xs_iload_9 eL_ticks_97 ?_
        refine xs_aload_0 eL_ticks_99 ?_
        refine g_X9_0 eL_ticks_100 lRL_10 ?_
        refine xs_iload_10 eL_ticks_103 ?_
        refine xa_iconst eL_ticks_105 ?_
        refine xbi_W30 (mi' := mL_process) (y := yL_process) eL_ticks_106 (xw_4 lRL_149 wy_L_process) rfl ⟨wd_L_process, by decide, by decide⟩ (Nat.le_of_ble_eq_true rfl) rfl (wp_0 hB1 hV.wk hT2 (show i < 4 by omega) ?_)
        rw [wkS_o (by decide)]
        refine xa_ldc (a := 999000) eL_ticks_109 lRL_203 (by decide) ?_
        refine xa_icmp_le (tgt := 118) eL_ticks_111 (by decide) (by omega) (by decide) (fun c111 => ?_) (fun c111 => ?_)
        · refine xa_iconst eL_ticks_118 ?_
          refine xa_ior eL_ticks_119 (fun z119 y119 => ?_)
          refine xs_istore_9 eL_ticks_120 rfl ?_
          refine xs_iinc_10 eL_ticks_122 rfl ?_
          refine xa_goto (tgt := 74) eL_ticks_125 (by decide) ?_
          exact ih (i + 1) (by omega) (by omega) _ _ y119 hB1 _ _ _ _ _ j11 j12 j13 j14 j15
        · refine xa_iconst eL_ticks_114 ?_
          refine xa_goto (tgt := 119) eL_ticks_115 (by decide) ?_
          refine xa_ior eL_ticks_119 (fun z119 y119 => ?_)
          refine xs_istore_9 eL_ticks_120 rfl ?_
          refine xs_iinc_10 eL_ticks_122 rfl ?_
          refine xa_goto (tgt := 74) eL_ticks_125 (by decide) ?_
          exact ih (i + 1) (by omega) (by omega) _ _ y119 hB1 _ _ _ _ _ j11 j12 j13 j14 j15
  have e0 : wkS 0 C = C := by funext k j f; unfold wkS; rw [if_neg (by omega)]
  refine xs_aload_0 eL_ticks_0 ?_
  refine g_X9_0 eL_ticks_1 lRL_10 ?_
  refine xa_iconst eL_ticks_4 ?_
  refine xbi_W20 (mi' := mL_count) (y := yL_count) eL_ticks_5 (xw_4 lRL_146 wy_L_count) rfl ⟨wd_L_count, by decide, by decide⟩ (Nat.le_of_ble_eq_true rfl) rfl (wc_0 hB hV hT2 ?_)
  refine xs_istore_1 eL_ticks_8 rfl ?_
  refine xs_aload_0 eL_ticks_9 ?_
  refine g_X9_0 eL_ticks_10 lRL_10 ?_
  refine xa_bipush eL_ticks_13 (by decide) ?_
  refine xbi_W20 (mi' := mL_count) (y := yL_count) eL_ticks_15 (xw_4 lRL_146 wy_L_count) rfl ⟨wd_L_count, by decide, by decide⟩ (Nat.le_of_ble_eq_true rfl) rfl (wc_7 hB hV hT2 ?_)
  refine xs_istore_2 eL_ticks_18 rfl ?_
  refine xs_aload_0 eL_ticks_19 ?_
  refine g_X9_0 eL_ticks_20 lRL_10 ?_
  refine xa_bipush eL_ticks_23 (by decide) ?_
  refine xbi_W20 (mi' := mL_count) (y := yL_count) eL_ticks_25 (xw_4 lRL_146 wy_L_count) rfl ⟨wd_L_count, by decide, by decide⟩ (Nat.le_of_ble_eq_true rfl) rfl (wc_8 hB hV hT2 ?_)
  refine xs_istore_3 eL_ticks_28 rfl ?_
  refine xs_aload_0 eL_ticks_29 ?_
  refine g_X9_0 eL_ticks_30 lRL_10 ?_
  refine xa_bipush eL_ticks_33 (by decide) ?_
  refine xbi_W20 (mi' := mL_count) (y := yL_count) eL_ticks_35 (xw_4 lRL_146 wy_L_count) rfl ⟨wd_L_count, by decide, by decide⟩ (Nat.le_of_ble_eq_true rfl) rfl (wc_9 hB hV hT2 ?_)
  refine xs_istore_4 eL_ticks_38 rfl ?_
  refine xs_aload_0 eL_ticks_40 ?_
  refine g_X9_0 eL_ticks_41 lRL_10 ?_
  refine xa_bipush eL_ticks_44 (by decide) ?_
  refine xbi_W20 (mi' := mL_count) (y := yL_count) eL_ticks_46 (xw_4 lRL_146 wy_L_count) rfl ⟨wd_L_count, by decide, by decide⟩ (Nat.le_of_ble_eq_true rfl) rfl (wc_10 hB hV hT2 ?_)
  refine xs_istore_5 eL_ticks_49 rfl ?_
  refine xs_aload_0 eL_ticks_51 ?_
  refine g_X9_0 eL_ticks_52 lRL_10 ?_
  refine xa_bipush eL_ticks_55 (by decide) ?_
  refine xbi_W20 (mi' := mL_count) (y := yL_count) eL_ticks_57 (xw_4 lRL_146 wy_L_count) rfl ⟨wd_L_count, by decide, by decide⟩ (Nat.le_of_ble_eq_true rfl) rfl (wc_11 hB hV hT2 ?_)
  refine xs_istore_6 eL_ticks_60 rfl ?_
  refine xs_aload_0 eL_ticks_62 ?_
  refine xbl_V00 (mi' := mL_money) (y := yL_money) eL_ticks_63 (xw_5 lRL_177 wy_L_money) rfl ⟨wd_L_money, by decide, by decide⟩ (by decide) (fun _ => rfl) rfl (Nat.le_of_ble_eq_true rfl) rfl (k_money hB hV hT2 ?_)
  refine xs_lstore_7 eL_ticks_66 rfl ?_
  refine xa_iconst eL_ticks_68 ?_
  refine xs_istore_9 eL_ticks_69 rfl ?_
  refine xa_iconst eL_ticks_71 ?_
  refine xs_istore_10 eL_ticks_72 rfl ?_
  exact lp1 0 (by omega) _ _ (by decide) (by rw [e0]; exact hB) _ _ _ _ _ rfl rfl rfl rfl rfl
