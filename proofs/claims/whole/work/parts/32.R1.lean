/-! PromiseMarketModel: arrivals, releases -/
theorem X_store {w : xW} {mi : xM} {TG : xT} {k n pc : Nat} {L st : List xV} {S1 S2 : xS} (e : S1 = S2) (h : X w mi TG k n pc L st S2) : X w mi TG k n pc L st S1 := e ▸ h
theorem tmod_r {a b : Int} (ha : 0 ≤ a) (hb : 0 < b) : 0 ≤ Int.tmod a b ∧ Int.tmod a b < b := ⟨Int.tmod_nonneg b ha, Int.tmod_lt_of_pos a hb⟩
theorem tmod_2 {a n : Int} (hn : 0 < n) (h0 : 0 ≤ a) (h2 : a < 2 * n) : Int.tmod a n = if a < n then a else a - n := by
  rw [Int.tmod_eq_emod_of_nonneg h0]
  by_cases c : a < n
  · rw [if_pos c, Int.emod_eq_of_lt h0 c]
  · rw [if_neg c, ← Int.sub_emod_right, Int.emod_eq_of_lt (by omega) (by omega)]
theorem VS.g {s n N : Nat} {T : Int} {C : xS} (h : VS s n N T C) : GQ n T (C 1 s) := h.2.2.2.1
theorem VS.p {s n N p : Nat} {T : Int} {C : xS} (h : VS s n N T C) (hp : p < n) : PQ T (C 4 (8 * s + p)) := h.2.2.2.2.1 p hp
theorem VS.o {s n N j : Nat} {T : Int} {C : xS} (h : VS s n N T C) (hj : j < N) : OQ n (C 2 s 2) T (C 10 (32 * s + j)) := h.2.2.2.2.2.1 j hj
theorem VS.t {s n N j : Nat} {T : Int} {C : xS} (h : VS s n N T C) (hj : j < N) : TQ (C 2 s 2) T (C 10 (32 * s + j)) := h.1.2.2.2 j hj
theorem relT_s {s i : Nat} {C : xS} : relT s (i + 1) C = if C 10 (32 * s + i) 0 = 0 ∧ C 10 (32 * s + i) 5 = C 2 s 2 then rwS 10 (32 * s + i) (xrel (C 10 (32 * s + i))) (relT s i C) else relT s i C := by
  funext k j f
  by_cases c : C 10 (32 * s + i) 0 = 0 ∧ C 10 (32 * s + i) 5 = C 2 s 2
  · rw [if_pos c]
    unfold rwS relT
    by_cases c2 : k = 10 ∧ j = 32 * s + i
    · obtain ⟨rfl, rfl⟩ := c2
      rw [if_pos ⟨rfl, by omega, by omega, c⟩, if_pos ⟨rfl, rfl⟩]
    · rw [if_neg c2]
      by_cases c3 : k = 10 ∧ 32 * s ≤ j ∧ j < 32 * s + i ∧ C 10 j 0 = 0 ∧ C 10 j 5 = C 2 s 2
      · rw [if_pos c3, if_pos ⟨c3.1, c3.2.1, by omega, c3.2.2.2⟩]
      · rw [if_neg c3, if_neg (fun z => c3 ⟨z.1, z.2.1, by omega, z.2.2.2⟩)]
  · rw [if_neg c]
    unfold relT
    by_cases c3 : k = 10 ∧ 32 * s ≤ j ∧ j < 32 * s + i ∧ C 10 j 0 = 0 ∧ C 10 j 5 = C 2 s 2
    · rw [if_pos c3, if_pos ⟨c3.1, c3.2.1, by omega, c3.2.2.2⟩]
    · by_cases c2 : k = 10 ∧ j = 32 * s + i
      · rw [if_neg c3, if_neg (fun z => c (by rw [← c2.2]; exact z.2.2.2))]
      · rw [if_neg c3, if_neg (fun z => c3 ⟨z.1, z.2.1, by omega, z.2.2.2⟩)]
theorem relT_0 (s : Nat) (C : xS) : relT s 0 C = C := by funext k j f; unfold relT; rw [if_neg (by omega)]
theorem relT_o {s i : Nat} {C : xS} {k : Nat} (h : k ≠ 10) : relT s i C k = C k := by funext j f; unfold relT; rw [if_neg (by omega)]
theorem relT_r {s i j : Nat} {C : xS} (h : i ≤ j) : relT s i C 10 (32 * s + j) = C 10 (32 * s + j) := by funext f; unfold relT; rw [if_neg (by omega)]
/-- a job is released: the rows -/
theorem PR.rel {t : Int} {F G G' : Nat → Int} (h : PR t F G) (h5 : F 5 = t) (ht : 0 ≤ t ∧ t ≤ 1000000) (h4 : 1 ≤ F 4 ∧ F 4 ≤ 120) (e : ∀ f, f < 18 → G' f = if f = 8 then (if 0 < F 11 then F 10 else F 1) else if f = 11 then (if 0 < F 11 then F 11 - 1 else F 11) else if f = 10 then (if 0 < F 11 then (if F 11 - 1 = 0 then -1 else F 10) else F 10) else if f = 6 then F 3 else if f = 7 then t + F 4 else if f = 5 then t + F 2 else if f = 17 then 1 else if f = 15 then F 15 + 1 else F f) (h11 : 0 ≤ F 11) : PR t (xrel F) G' := by
  refine ⟨fun f h16 q6 q7 q8 => ?_, ?_, Or.inl ⟨?_, ?_, ?_, ?_, ?_⟩⟩
  · rw [e f (by omega), if_neg q8, if_neg q6, if_neg q7]
    unfold xrel
    by_cases c5 : f = 5
    · subst c5; rw [if_neg (by decide), if_neg (by decide), if_pos rfl, if_pos rfl]; omega
    · rw [if_neg c5, if_neg c5, if_neg q6, if_neg q7]
      by_cases c15 : f = 15
      · subst c15; rw [if_neg (by decide), if_neg (by decide), if_neg (by decide), if_pos rfl, if_pos rfl]
      · rw [if_neg c15, if_neg c15, if_neg q8, if_neg (show f ≠ 17 by omega)]
        by_cases c10 : f = 10
        · subst c10; rw [if_neg (by decide), if_pos rfl, if_pos rfl]
          by_cases c : 0 < F 11
          · rw [if_pos c, if_pos c]
            by_cases c2 : F 11 - 1 = 0
            · rw [if_pos c2, if_neg (by omega)]
            · rw [if_neg c2, if_pos (by omega)]
          · rw [if_neg c, if_neg c]
        · rw [if_neg c10, if_neg c10]
  · rw [e 7 (by decide)]
    simp (decide := true) only [if_true, if_false]
    omega
  · show t < F 5 + F 4; omega
  · rw [e 17 (by decide)]; rfl
  · rw [e 6 (by decide)]; rfl
  · rw [e 7 (by decide)]; show t + F 4 = F 5 + F 4; omega
  · rw [e 8 (by decide)]; rfl
set_option maxHeartbeats 400000 in
theorem f_X8_arrive {w : xW} {S : xS} {B : String → xS → Prop} {A : xS → Prop} {s n N : Nat} {T : Int} {C : xS} {M : Nat → Int} (hV : VS s n N T C) (hT : T ≤ 1000000) (hR : Rel s n N C M) (hq : ∀ M', Rel s n N (arrS s n C) M' → A (stM M' S)) : Kv w mX8_arrive yX8_arrive 0 0 [xp 30 0] (stM M S) A B := by
  refine K.of rfl rfl rfl rfl (Nat.le_of_ble_eq_true rfl) rfl ?_
  have hn8 := hV.2.2.1
  have ht := hV.1.2.2.1
  have lp : ∀ i : Nat, i ≤ n → ∀ (a2 : xV) (Mi : Nat → Int) (_ : Rel s n N (arrS s i C) Mi), X w mX8_arrive (xTG w (fun v S' => v = none ∧ A S') B) 0 0 2 [xp 30 0, xi (i : Int), a2] [] (stM Mi S) := by
    refine nloop (n) (fun i hi ih a2 Mi hR => ?_)
    have h1 : Mi 1 = (n : Int) := by rw [hR.1 1 (by decide)]; show arrS s i C 1 s 3 = _; rw [arrS_o (by decide)]; exact hV.g.1
    have h0 : Mi 0 = C 2 s 2 := by rw [hR.1 0 (by decide)]; show arrS s i C 2 s 2 = _; rw [arrS_o (by decide)]
    have hp : ∀ f, i < n → f < 11 → Mi (15 + 11 * i + f) = C 4 (8 * s + i) f := fun f hi9 hf => by rw [hR.p hi9 hn8 hf, arrS_4]
    refine xs_iload_1 eX8_arrive_2 ?_
    refine xa_i2l eX8_arrive_3 (by omega) ?_
    refine xs_aload_0 eX8_arrive_4 ?_
    refine g_X8_0 eX8_arrive_5 lRX8_7 ?_
    refine xa_iconst eX8_arrive_8 ?_
    refine gar_31 eX8_arrive_9 (by omega) (fun r9 => ?_)
    try simp (decide := true) only [h1, h0, stM_31, show (0 : Int).toNat = 0 from rfl, show (1 : Int).toNat = 1 from rfl, show (2 : Int).toNat = 2 from rfl, show (3 : Int).toNat = 3 from rfl, show (4 : Int).toNat = 4 from rfl, show (5 : Int).toNat = 5 from rfl, show (6 : Int).toNat = 6 from rfl, show (7 : Int).toNat = 7 from rfl, show (8 : Int).toNat = 8 from rfl, show (9 : Int).toNat = 9 from rfl, show (10 : Int).toNat = 10 from rfl, show (11 : Int).toNat = 11 from rfl, show (12 : Int).toNat = 12 from rfl, show (13 : Int).toNat = 13 from rfl, show (14 : Int).toNat = 14 from rfl, Int.toNat_natCast] at r9 ⊢
    refine xa_lcmp eX8_arrive_10 (by omega) (by omega) ?_
    refine xa_ifc_ge (tgt := 56) eX8_arrive_11 (by decide) (fun c11 => ?_) (fun c11 => ?_)
    · exact xa_vret eX8_arrive_56 rfl ⟨rfl, hq Mi (by rw [show n = i by omega] at hR ⊢; exact hR)⟩
    · refine xs_aload_0 eX8_arrive_14 ?_
      refine xs_iload_1 eX8_arrive_15 ?_
      refine xa_iconst eX8_arrive_16 ?_
      refine xbi_V20 (mi' := mX8_of) (y := yX8_of) eX8_arrive_17 (xw_5 lRX8_70 wy_X8_of) rfl ⟨wd_X8_of, by decide, by decide⟩ (by decide) (fun _ => rfl) rfl (Nat.le_of_ble_eq_true rfl) rfl (k_X8_of (p := i) (g := 3) rfl rfl (by omega) (by decide) ?_)
      rw [stM_31, hp 3 (by omega) (by decide)]
      have hPi := hV.p (p := i) (by omega)
      unfold PQ at hPi
      refine xs_istore_2 eX8_arrive_20 rfl ?_
      refine xs_iload_2 eX8_arrive_21 ?_
      refine xa_if_le (tgt := 50) eX8_arrive_22 (by decide) (by omega) (fun c22 => ?_) (fun c22 => ?_)
      · refine xs_iinc_1 eX8_arrive_50 rfl ?_
        refine xa_goto (tgt := 2) eX8_arrive_53 (by decide) ?_
        refine ih (i + 1) (by omega) (by omega) _ Mi ?_
        rw [← arrS_s, xarr, if_neg (by omega), up_id (by rw [arrS_4])]
        exact hR
      · refine xs_aload_0 eX8_arrive_25 ?_
        refine g_X8_0 eX8_arrive_26 lRX8_7 ?_
        refine xa_iconst eX8_arrive_29 ?_
        refine gar_31 eX8_arrive_30 (by omega) (fun r30 => ?_)
        try simp (decide := true) only [h1, h0, stM_31, show (0 : Int).toNat = 0 from rfl, show (1 : Int).toNat = 1 from rfl, show (2 : Int).toNat = 2 from rfl, show (3 : Int).toNat = 3 from rfl, show (4 : Int).toNat = 4 from rfl, show (5 : Int).toNat = 5 from rfl, show (6 : Int).toNat = 6 from rfl, show (7 : Int).toNat = 7 from rfl, show (8 : Int).toNat = 8 from rfl, show (9 : Int).toNat = 9 from rfl, show (10 : Int).toNat = 10 from rfl, show (11 : Int).toNat = 11 from rfl, show (12 : Int).toNat = 12 from rfl, show (13 : Int).toNat = 13 from rfl, show (14 : Int).toNat = 14 from rfl, Int.toNat_natCast] at r30 ⊢
        refine xs_iload_2 eX8_arrive_31 ?_
        refine xa_i2l eX8_arrive_32 (by omega) ?_
        refine xa_lrem eX8_arrive_33 (by omega) (by omega) (by omega) ?_
        refine xa_lconst0 eX8_arrive_34 ?_
        refine xa_lcmp eX8_arrive_35 (by have := tmod_r (a := C 2 s 2) (b := C 4 (8 * s + i) 3) (by omega) (by omega); omega) (by decide) ?_
        refine xa_ifc_ne (tgt := 50) eX8_arrive_36 (by decide) (fun c36 => ?_) (fun c36 => ?_)
        · refine xs_iinc_1 eX8_arrive_50 rfl ?_
          refine xa_goto (tgt := 2) eX8_arrive_53 (by decide) ?_
          refine ih (i + 1) (by omega) (by omega) _ Mi ?_
          rw [← arrS_s, xarr, if_neg (fun z => c36 z.2), up_id (by rw [arrS_4])]
          exact hR
        · refine xs_aload_0 eX8_arrive_39 ?_
          refine xs_iload_1 eX8_arrive_40 ?_
          refine xs_aload_0 eX8_arrive_41 ?_
          refine xs_iload_1 eX8_arrive_42 ?_
          refine xa_iconst eX8_arrive_43 ?_
          refine xbi_V20 (mi' := mX8_of) (y := yX8_of) eX8_arrive_44 (xw_5 lRX8_70 wy_X8_of) rfl ⟨wd_X8_of, by decide, by decide⟩ (by decide) (fun _ => rfl) rfl (Nat.le_of_ble_eq_true rfl) rfl (k_X8_of (p := i) (g := 4) rfl rfl (by omega) (by decide) ?_)
          rw [stM_31, hp 4 (by omega) (by decide)]
          refine xbv_V20 (mi' := mX8_burden) (y := yX8_burden) eX8_arrive_47 (xw_5 lRX8_110 wy_X8_burden) rfl ⟨wd_X8_burden, by decide, by decide⟩ (by decide) (fun _ => rfl) rfl (Nat.le_of_ble_eq_true rfl) rfl (k_X8_burden (p := i) rfl (by omega) (by rw [stM_31, hp 1 (by omega) (by decide)]; omega) ?_)
          rw [stM_31, up_stM, hp 1 (by omega) (by decide)]
          refine xs_iinc_1 eX8_arrive_50 rfl ?_
          refine xa_goto (tgt := 2) eX8_arrive_53 (by decide) ?_
          refine ih (i + 1) (by omega) (by omega) _ _ ?_
          rw [← arrS_s, xarr, if_pos ⟨by omega, c36⟩]
          exact hR.pu (by omega) hn8 (by decide) hV.2.1
  refine xa_iconst eX8_arrive_0 ?_
  refine xs_istore_1 eX8_arrive_1 rfl ?_
  exact lp 0 (by omega) xj M (by rw [arrS_0]; exact hR)
set_option maxHeartbeats 400000 in
theorem f_X8_releaseJob {w : xW} {S : xS} {B : String → xS → Prop} {A : xS → Prop} {s n N : Nat} {T : Int} {C : xS} {M : Nat → Int} {j : Nat} (hV : VS s n N T C) (hT : T ≤ 1000000) (hR : Rel s n N C M) (hj : j < N) (h5 : C 10 (32 * s + j) 5 = C 2 s 2) (hq : ∀ M', Rel s n N (rwS 10 (32 * s + j) (xrel (C 10 (32 * s + j))) C) M' → A (stM M' S)) : Kv w mX8_releaseJob yX8_releaseJob 0 0 [xp 30 0, xi (j : Int)] (stM M S) A B := by
  refine K.of rfl rfl rfl rfl (Nat.le_of_ble_eq_true rfl) rfl ?_
  have h8n := hV.2.2.1
  have hN20 := hV.2.1
  have hj20 : j < 20 := by omega
  have hQ := hV.o hj
  have hTQ := hV.t hj
  have ht := hV.1.2.2.1
  unfold OQ at hQ
  unfold TQ at hTQ
  have q1 : M (103 + 18 * j + 1) = C 10 (32 * s + j) 1 := hR.q hj (by decide) (by decide) (by decide) (by decide)
  have q2 : M (103 + 18 * j + 2) = C 10 (32 * s + j) 2 := hR.q hj (by decide) (by decide) (by decide) (by decide)
  have q3 : M (103 + 18 * j + 3) = C 10 (32 * s + j) 3 := hR.q hj (by decide) (by decide) (by decide) (by decide)
  have q4 : M (103 + 18 * j + 4) = C 10 (32 * s + j) 4 := hR.q hj (by decide) (by decide) (by decide) (by decide)
  have q10 : M (103 + 18 * j + 10) = C 10 (32 * s + j) 10 := hR.q hj (by decide) (by decide) (by decide) (by decide)
  have q11 : M (103 + 18 * j + 11) = C 10 (32 * s + j) 11 := hR.q hj (by decide) (by decide) (by decide) (by decide)
  have q15 : M (103 + 18 * j + 15) = C 10 (32 * s + j) 15 := hR.q hj (by decide) (by decide) (by decide) (by decide)
  have qt : M 0 = C 2 s 2 := hR.1 0 (by decide)
  have hz : ∀ f, (0 = 103 + 18 * j + f) = False := fun f => eq_false (by omega)
  refine xs_aload_0 eX8_releaseJob_0 ?_
  refine xs_iload_1 eX8_releaseJob_1 ?_
  refine xa_bipush eX8_releaseJob_2 (by decide) ?_
  refine xbi_V20 (mi' := mX8_told0) (y := yX8_told0) eX8_releaseJob_4 (xw_5 lRX8_122 wy_X8_told0) rfl ⟨wd_X8_told0, by decide, by decide⟩ (by decide) (fun _ => rfl) rfl (Nat.le_of_ble_eq_true rfl) rfl (k_X8_told0 (p := j) (g := 11) rfl rfl hj20 (by decide) ?_)
  try simp (decide := true) only [stM_31, up_stM, upM, q1, q2, q3, q4, q10, q11, q15, qt, if_true, if_false, Nat.add_left_cancel_iff, hz]
  refine xa_if_le (tgt := 14) eX8_releaseJob_7 (by decide) (by omega) (fun c7 => ?_) (fun c7 => ?_)
  · refine xa_iconst eX8_releaseJob_14 ?_
    refine xs_istore_2 eX8_releaseJob_15 rfl ?_
    refine xs_aload_0 eX8_releaseJob_16 ?_
    refine xs_iload_1 eX8_releaseJob_17 ?_
    refine xa_bipush eX8_releaseJob_18 (by decide) ?_
    refine xs_iload_2 eX8_releaseJob_20 ?_
    refine xa_if_eq (tgt := 34) eX8_releaseJob_21 (by decide) (by decide) (fun c21 => ?_) (fun c21 => ?_)
    · refine xs_aload_0 eX8_releaseJob_34 ?_
      refine xs_iload_1 eX8_releaseJob_35 ?_
      refine xa_iconst eX8_releaseJob_36 ?_
      refine xbi_V20 (mi' := mX8_told0) (y := yX8_told0) eX8_releaseJob_37 (xw_5 lRX8_122 wy_X8_told0) rfl ⟨wd_X8_told0, by decide, by decide⟩ (by decide) (fun _ => rfl) rfl (Nat.le_of_ble_eq_true rfl) rfl (k_X8_told0 (p := j) (g := 1) rfl rfl hj20 (by decide) ?_)
      try simp (decide := true) only [stM_31, up_stM, upM, q1, q2, q3, q4, q10, q11, q15, qt, if_true, if_false, Nat.add_left_cancel_iff, hz]
      refine xbv_V30 (mi' := mX8_keep) (y := yX8_keep) eX8_releaseJob_40 (xw_5 lRX8_137 wy_X8_keep) rfl ⟨wd_X8_keep, by decide, by decide⟩ (by decide) (fun _ => rfl) rfl (Nat.le_of_ble_eq_true rfl) rfl (k_X8_keep (p := j) (g := 8) rfl rfl hj20 (by decide) (by omega) ?_)
      try simp (decide := true) only [stM_31, up_stM, upM, q1, q2, q3, q4, q10, q11, q15, qt, if_true, if_false, Nat.add_left_cancel_iff, hz]
      refine xs_iload_2 eX8_releaseJob_43 ?_
      refine xa_if_eq (tgt := 91) eX8_releaseJob_44 (by decide) (by decide) (fun c44 => ?_) (fun c44 => ?_)
      · refine xs_aload_0 eX8_releaseJob_91 ?_
        refine xs_iload_1 eX8_releaseJob_92 ?_
        refine xa_bipush eX8_releaseJob_93 (by decide) ?_
        refine xs_aload_0 eX8_releaseJob_95 ?_
        refine xs_iload_1 eX8_releaseJob_96 ?_
        refine xa_iconst eX8_releaseJob_97 ?_
        refine xbi_V20 (mi' := mX8_told0) (y := yX8_told0) eX8_releaseJob_98 (xw_5 lRX8_122 wy_X8_told0) rfl ⟨wd_X8_told0, by decide, by decide⟩ (by decide) (fun _ => rfl) rfl (Nat.le_of_ble_eq_true rfl) rfl (k_X8_told0 (p := j) (g := 3) rfl rfl hj20 (by decide) ?_)
        try simp (decide := true) only [stM_31, up_stM, upM, q1, q2, q3, q4, q10, q11, q15, qt, if_true, if_false, Nat.add_left_cancel_iff, hz]
        refine xbv_V30 (mi' := mX8_keep) (y := yX8_keep) eX8_releaseJob_101 (xw_5 lRX8_137 wy_X8_keep) rfl ⟨wd_X8_keep, by decide, by decide⟩ (by decide) (fun _ => rfl) rfl (Nat.le_of_ble_eq_true rfl) rfl (k_X8_keep (p := j) (g := 6) rfl rfl hj20 (by decide) (by omega) ?_)
        try simp (decide := true) only [stM_31, up_stM, upM, q1, q2, q3, q4, q10, q11, q15, qt, if_true, if_false, Nat.add_left_cancel_iff, hz]
        refine xs_aload_0 eX8_releaseJob_104 ?_
        refine xs_iload_1 eX8_releaseJob_105 ?_
        refine xa_bipush eX8_releaseJob_106 (by decide) ?_
        refine xs_aload_0 eX8_releaseJob_108 ?_
        refine xa_iconst eX8_releaseJob_109 ?_
        refine xbi_V10 (mi' := mX8_number) (y := yX8_number) eX8_releaseJob_110 (xw_5 lRX8_65 wy_X8_number) rfl ⟨wd_X8_number, by decide, by decide⟩ (by decide) (fun _ => rfl) rfl (Nat.le_of_ble_eq_true rfl) rfl (k_X8_number (i := 0) rfl (by decide) ?_)
        try simp (decide := true) only [stM_31, up_stM, upM, q1, q2, q3, q4, q10, q11, q15, qt, if_true, if_false, Nat.add_left_cancel_iff, hz]
        refine xs_aload_0 eX8_releaseJob_113 ?_
        refine xs_iload_1 eX8_releaseJob_114 ?_
        refine xa_iconst eX8_releaseJob_115 ?_
        refine xbi_V20 (mi' := mX8_told0) (y := yX8_told0) eX8_releaseJob_116 (xw_5 lRX8_122 wy_X8_told0) rfl ⟨wd_X8_told0, by decide, by decide⟩ (by decide) (fun _ => rfl) rfl (Nat.le_of_ble_eq_true rfl) rfl (k_X8_told0 (p := j) (g := 4) rfl rfl hj20 (by decide) ?_)
        try simp (decide := true) only [stM_31, up_stM, upM, q1, q2, q3, q4, q10, q11, q15, qt, if_true, if_false, Nat.add_left_cancel_iff, hz]
        refine xa_iadd eX8_releaseJob_119 ?_
        refine xbv_V30 (mi' := mX8_keep) (y := yX8_keep) eX8_releaseJob_120 (xw_5 lRX8_137 wy_X8_keep) rfl ⟨wd_X8_keep, by decide, by decide⟩ (by decide) (fun _ => rfl) rfl (Nat.le_of_ble_eq_true rfl) rfl (k_X8_keep (p := j) (g := 7) rfl rfl hj20 (by decide) (by omega) ?_)
        try simp (decide := true) only [stM_31, up_stM, upM, q1, q2, q3, q4, q10, q11, q15, qt, if_true, if_false, Nat.add_left_cancel_iff, hz]
        refine xs_aload_0 eX8_releaseJob_123 ?_
        refine xs_iload_1 eX8_releaseJob_124 ?_
        refine xa_iconst eX8_releaseJob_125 ?_
        refine xs_aload_0 eX8_releaseJob_126 ?_
        refine xa_iconst eX8_releaseJob_127 ?_
        refine xbi_V10 (mi' := mX8_number) (y := yX8_number) eX8_releaseJob_128 (xw_5 lRX8_65 wy_X8_number) rfl ⟨wd_X8_number, by decide, by decide⟩ (by decide) (fun _ => rfl) rfl (Nat.le_of_ble_eq_true rfl) rfl (k_X8_number (i := 0) rfl (by decide) ?_)
        try simp (decide := true) only [stM_31, up_stM, upM, q1, q2, q3, q4, q10, q11, q15, qt, if_true, if_false, Nat.add_left_cancel_iff, hz]
        refine xs_aload_0 eX8_releaseJob_131 ?_
        refine xs_iload_1 eX8_releaseJob_132 ?_
        refine xa_iconst eX8_releaseJob_133 ?_
        refine xbi_V20 (mi' := mX8_told0) (y := yX8_told0) eX8_releaseJob_134 (xw_5 lRX8_122 wy_X8_told0) rfl ⟨wd_X8_told0, by decide, by decide⟩ (by decide) (fun _ => rfl) rfl (Nat.le_of_ble_eq_true rfl) rfl (k_X8_told0 (p := j) (g := 2) rfl rfl hj20 (by decide) ?_)
        try simp (decide := true) only [stM_31, up_stM, upM, q1, q2, q3, q4, q10, q11, q15, qt, if_true, if_false, Nat.add_left_cancel_iff, hz]
        refine xa_iadd eX8_releaseJob_137 ?_
        refine xbv_V30 (mi' := mX8_keep) (y := yX8_keep) eX8_releaseJob_138 (xw_5 lRX8_137 wy_X8_keep) rfl ⟨wd_X8_keep, by decide, by decide⟩ (by decide) (fun _ => rfl) rfl (Nat.le_of_ble_eq_true rfl) rfl (k_X8_keep (p := j) (g := 5) rfl rfl hj20 (by decide) (by omega) ?_)
        try simp (decide := true) only [stM_31, up_stM, upM, q1, q2, q3, q4, q10, q11, q15, qt, if_true, if_false, Nat.add_left_cancel_iff, hz]
        refine xs_aload_0 eX8_releaseJob_141 ?_
        refine xs_iload_1 eX8_releaseJob_142 ?_
        refine xa_bipush eX8_releaseJob_143 (by decide) ?_
        refine xa_iconst eX8_releaseJob_145 ?_
        refine xbv_V30 (mi' := mX8_keep) (y := yX8_keep) eX8_releaseJob_146 (xw_5 lRX8_137 wy_X8_keep) rfl ⟨wd_X8_keep, by decide, by decide⟩ (by decide) (fun _ => rfl) rfl (Nat.le_of_ble_eq_true rfl) rfl (k_X8_keep (p := j) (g := 17) rfl rfl hj20 (by decide) (by decide) ?_)
        try simp (decide := true) only [stM_31, up_stM, upM, q1, q2, q3, q4, q10, q11, q15, qt, if_true, if_false, Nat.add_left_cancel_iff, hz]
        refine xs_aload_0 eX8_releaseJob_149 ?_
        refine xs_iload_1 eX8_releaseJob_150 ?_
        refine xa_bipush eX8_releaseJob_151 (by decide) ?_
        refine xs_aload_0 eX8_releaseJob_153 ?_
        refine xs_iload_1 eX8_releaseJob_154 ?_
        refine xa_bipush eX8_releaseJob_155 (by decide) ?_
        refine xbi_V20 (mi' := mX8_told0) (y := yX8_told0) eX8_releaseJob_157 (xw_5 lRX8_122 wy_X8_told0) rfl ⟨wd_X8_told0, by decide, by decide⟩ (by decide) (fun _ => rfl) rfl (Nat.le_of_ble_eq_true rfl) rfl (k_X8_told0 (p := j) (g := 15) rfl rfl hj20 (by decide) ?_)
        try simp (decide := true) only [stM_31, up_stM, upM, q1, q2, q3, q4, q10, q11, q15, qt, if_true, if_false, Nat.add_left_cancel_iff, hz]
        refine xa_iconst eX8_releaseJob_160 ?_
        refine xa_iadd eX8_releaseJob_161 ?_
        refine xbv_V30 (mi' := mX8_keep) (y := yX8_keep) eX8_releaseJob_162 (xw_5 lRX8_137 wy_X8_keep) rfl ⟨wd_X8_keep, by decide, by decide⟩ (by decide) (fun _ => rfl) rfl (Nat.le_of_ble_eq_true rfl) rfl (k_X8_keep (p := j) (g := 15) rfl rfl hj20 (by decide) (by omega) ?_)
        try simp (decide := true) only [stM_31, up_stM, upM, q1, q2, q3, q4, q10, q11, q15, qt, if_true, if_false, Nat.add_left_cancel_iff, hz]
        refine xa_vret eX8_releaseJob_165 rfl ⟨rfl, hq _ (hR.row hj hV.2.1 (fun i hi => ?_) ((hR.2.2.1 j hj).rel h5 (by omega) (by omega) (fun f hf => ?_) (by omega)))⟩
        · simp only [upM]
          repeat rw [if_neg (by omega)]
        · show upM _ _ _ _ = _
          simp only [upM, Nat.add_left_cancel_iff]
          have hf9 : f = 0 ∨ f = 1 ∨ f = 2 ∨ f = 3 ∨ f = 4 ∨ f = 5 ∨ f = 6 ∨ f = 7 ∨ f = 8 ∨ f = 9 ∨ f = 10 ∨ f = 11 ∨ f = 12 ∨ f = 13 ∨ f = 14 ∨ f = 15 ∨ f = 16 ∨ f = 17 := by omega
          rcases hf9 with rfl | rfl | rfl | rfl | rfl | rfl | rfl | rfl | rfl | rfl | rfl | rfl | rfl | rfl | rfl | rfl | rfl | rfl <;> simp (decide := true) only [if_true, if_false] <;> (first | rfl | omega | exact hR.q hj (by decide) (by decide) (by decide) (by decide) | ((repeat (first | rw [if_pos (by omega)] | rw [if_neg (by omega)])); first | rfl | omega))
      · exact absurd rfl c44
    · exact absurd rfl c21
  · refine xa_iconst eX8_releaseJob_10 ?_
    refine xa_goto (tgt := 15) eX8_releaseJob_11 (by decide) ?_
    refine xs_istore_2 eX8_releaseJob_15 rfl ?_
    refine xs_aload_0 eX8_releaseJob_16 ?_
    refine xs_iload_1 eX8_releaseJob_17 ?_
    refine xa_bipush eX8_releaseJob_18 (by decide) ?_
    refine xs_iload_2 eX8_releaseJob_20 ?_
    refine xa_if_eq (tgt := 34) eX8_releaseJob_21 (by decide) (by decide) (fun c21 => ?_) (fun c21 => ?_)
    · exact absurd c21 (by decide)
    · refine xs_aload_0 eX8_releaseJob_24 ?_
      refine xs_iload_1 eX8_releaseJob_25 ?_
      refine xa_bipush eX8_releaseJob_26 (by decide) ?_
      refine xbi_V20 (mi' := mX8_told0) (y := yX8_told0) eX8_releaseJob_28 (xw_5 lRX8_122 wy_X8_told0) rfl ⟨wd_X8_told0, by decide, by decide⟩ (by decide) (fun _ => rfl) rfl (Nat.le_of_ble_eq_true rfl) rfl (k_X8_told0 (p := j) (g := 10) rfl rfl hj20 (by decide) ?_)
      try simp (decide := true) only [stM_31, up_stM, upM, q1, q2, q3, q4, q10, q11, q15, qt, if_true, if_false, Nat.add_left_cancel_iff, hz]
      refine xa_goto (tgt := 40) eX8_releaseJob_31 (by decide) ?_
      refine xbv_V30 (mi' := mX8_keep) (y := yX8_keep) eX8_releaseJob_40 (xw_5 lRX8_137 wy_X8_keep) rfl ⟨wd_X8_keep, by decide, by decide⟩ (by decide) (fun _ => rfl) rfl (Nat.le_of_ble_eq_true rfl) rfl (k_X8_keep (p := j) (g := 8) rfl rfl hj20 (by decide) (by omega) ?_)
      try simp (decide := true) only [stM_31, up_stM, upM, q1, q2, q3, q4, q10, q11, q15, qt, if_true, if_false, Nat.add_left_cancel_iff, hz]
      refine xs_iload_2 eX8_releaseJob_43 ?_
      refine xa_if_eq (tgt := 91) eX8_releaseJob_44 (by decide) (by decide) (fun c44 => ?_) (fun c44 => ?_)
      · exact absurd c44 (by decide)
      · refine xs_aload_0 eX8_releaseJob_47 ?_
        refine xs_iload_1 eX8_releaseJob_48 ?_
        refine xa_bipush eX8_releaseJob_49 (by decide) ?_
        refine xs_aload_0 eX8_releaseJob_51 ?_
        refine xs_iload_1 eX8_releaseJob_52 ?_
        refine xa_bipush eX8_releaseJob_53 (by decide) ?_
        refine xbi_V20 (mi' := mX8_told0) (y := yX8_told0) eX8_releaseJob_55 (xw_5 lRX8_122 wy_X8_told0) rfl ⟨wd_X8_told0, by decide, by decide⟩ (by decide) (fun _ => rfl) rfl (Nat.le_of_ble_eq_true rfl) rfl (k_X8_told0 (p := j) (g := 11) rfl rfl hj20 (by decide) ?_)
        try simp (decide := true) only [stM_31, up_stM, upM, q1, q2, q3, q4, q10, q11, q15, qt, if_true, if_false, Nat.add_left_cancel_iff, hz]
        refine xa_iconst eX8_releaseJob_58 ?_
        refine xa_isub eX8_releaseJob_59 ?_
        refine xbv_V30 (mi' := mX8_keep) (y := yX8_keep) eX8_releaseJob_60 (xw_5 lRX8_137 wy_X8_keep) rfl ⟨wd_X8_keep, by decide, by decide⟩ (by decide) (fun _ => rfl) rfl (Nat.le_of_ble_eq_true rfl) rfl (k_X8_keep (p := j) (g := 11) rfl rfl hj20 (by decide) (by omega) ?_)
        try simp (decide := true) only [stM_31, up_stM, upM, q1, q2, q3, q4, q10, q11, q15, qt, if_true, if_false, Nat.add_left_cancel_iff, hz]
        refine xs_aload_0 eX8_releaseJob_63 ?_
        refine xs_iload_1 eX8_releaseJob_64 ?_
        refine xa_bipush eX8_releaseJob_65 (by decide) ?_
        refine xs_aload_0 eX8_releaseJob_67 ?_
        refine xs_iload_1 eX8_releaseJob_68 ?_
        refine xa_bipush eX8_releaseJob_69 (by decide) ?_
        refine xbi_V20 (mi' := mX8_told0) (y := yX8_told0) eX8_releaseJob_71 (xw_5 lRX8_122 wy_X8_told0) rfl ⟨wd_X8_told0, by decide, by decide⟩ (by decide) (fun _ => rfl) rfl (Nat.le_of_ble_eq_true rfl) rfl (k_X8_told0 (p := j) (g := 11) rfl rfl hj20 (by decide) ?_)
        try simp (decide := true) only [stM_31, up_stM, upM, q1, q2, q3, q4, q10, q11, q15, qt, if_true, if_false, Nat.add_left_cancel_iff, hz]
        refine xa_if_ne (tgt := 81) eX8_releaseJob_74 (by decide) (by omega) (fun c74 => ?_) (fun c74 => ?_)
        · refine xs_aload_0 eX8_releaseJob_81 ?_
          refine xs_iload_1 eX8_releaseJob_82 ?_
          refine xa_bipush eX8_releaseJob_83 (by decide) ?_
          refine xbi_V20 (mi' := mX8_told0) (y := yX8_told0) eX8_releaseJob_85 (xw_5 lRX8_122 wy_X8_told0) rfl ⟨wd_X8_told0, by decide, by decide⟩ (by decide) (fun _ => rfl) rfl (Nat.le_of_ble_eq_true rfl) rfl (k_X8_told0 (p := j) (g := 10) rfl rfl hj20 (by decide) ?_)
          try simp (decide := true) only [stM_31, up_stM, upM, q1, q2, q3, q4, q10, q11, q15, qt, if_true, if_false, Nat.add_left_cancel_iff, hz]
          refine xbv_V30 (mi' := mX8_keep) (y := yX8_keep) eX8_releaseJob_88 (xw_5 lRX8_137 wy_X8_keep) rfl ⟨wd_X8_keep, by decide, by decide⟩ (by decide) (fun _ => rfl) rfl (Nat.le_of_ble_eq_true rfl) rfl (k_X8_keep (p := j) (g := 10) rfl rfl hj20 (by decide) (by omega) ?_)
          try simp (decide := true) only [stM_31, up_stM, upM, q1, q2, q3, q4, q10, q11, q15, qt, if_true, if_false, Nat.add_left_cancel_iff, hz]
          refine xs_aload_0 eX8_releaseJob_91 ?_
          refine xs_iload_1 eX8_releaseJob_92 ?_
          refine xa_bipush eX8_releaseJob_93 (by decide) ?_
          refine xs_aload_0 eX8_releaseJob_95 ?_
          refine xs_iload_1 eX8_releaseJob_96 ?_
          refine xa_iconst eX8_releaseJob_97 ?_
          refine xbi_V20 (mi' := mX8_told0) (y := yX8_told0) eX8_releaseJob_98 (xw_5 lRX8_122 wy_X8_told0) rfl ⟨wd_X8_told0, by decide, by decide⟩ (by decide) (fun _ => rfl) rfl (Nat.le_of_ble_eq_true rfl) rfl (k_X8_told0 (p := j) (g := 3) rfl rfl hj20 (by decide) ?_)
          try simp (decide := true) only [stM_31, up_stM, upM, q1, q2, q3, q4, q10, q11, q15, qt, if_true, if_false, Nat.add_left_cancel_iff, hz]
          refine xbv_V30 (mi' := mX8_keep) (y := yX8_keep) eX8_releaseJob_101 (xw_5 lRX8_137 wy_X8_keep) rfl ⟨wd_X8_keep, by decide, by decide⟩ (by decide) (fun _ => rfl) rfl (Nat.le_of_ble_eq_true rfl) rfl (k_X8_keep (p := j) (g := 6) rfl rfl hj20 (by decide) (by omega) ?_)
          try simp (decide := true) only [stM_31, up_stM, upM, q1, q2, q3, q4, q10, q11, q15, qt, if_true, if_false, Nat.add_left_cancel_iff, hz]
          refine xs_aload_0 eX8_releaseJob_104 ?_
          refine xs_iload_1 eX8_releaseJob_105 ?_
          refine xa_bipush eX8_releaseJob_106 (by decide) ?_
          refine xs_aload_0 eX8_releaseJob_108 ?_
          refine xa_iconst eX8_releaseJob_109 ?_
          refine xbi_V10 (mi' := mX8_number) (y := yX8_number) eX8_releaseJob_110 (xw_5 lRX8_65 wy_X8_number) rfl ⟨wd_X8_number, by decide, by decide⟩ (by decide) (fun _ => rfl) rfl (Nat.le_of_ble_eq_true rfl) rfl (k_X8_number (i := 0) rfl (by decide) ?_)
          try simp (decide := true) only [stM_31, up_stM, upM, q1, q2, q3, q4, q10, q11, q15, qt, if_true, if_false, Nat.add_left_cancel_iff, hz]
          refine xs_aload_0 eX8_releaseJob_113 ?_
          refine xs_iload_1 eX8_releaseJob_114 ?_
          refine xa_iconst eX8_releaseJob_115 ?_
          refine xbi_V20 (mi' := mX8_told0) (y := yX8_told0) eX8_releaseJob_116 (xw_5 lRX8_122 wy_X8_told0) rfl ⟨wd_X8_told0, by decide, by decide⟩ (by decide) (fun _ => rfl) rfl (Nat.le_of_ble_eq_true rfl) rfl (k_X8_told0 (p := j) (g := 4) rfl rfl hj20 (by decide) ?_)
          try simp (decide := true) only [stM_31, up_stM, upM, q1, q2, q3, q4, q10, q11, q15, qt, if_true, if_false, Nat.add_left_cancel_iff, hz]
          refine xa_iadd eX8_releaseJob_119 ?_
          refine xbv_V30 (mi' := mX8_keep) (y := yX8_keep) eX8_releaseJob_120 (xw_5 lRX8_137 wy_X8_keep) rfl ⟨wd_X8_keep, by decide, by decide⟩ (by decide) (fun _ => rfl) rfl (Nat.le_of_ble_eq_true rfl) rfl (k_X8_keep (p := j) (g := 7) rfl rfl hj20 (by decide) (by omega) ?_)
          try simp (decide := true) only [stM_31, up_stM, upM, q1, q2, q3, q4, q10, q11, q15, qt, if_true, if_false, Nat.add_left_cancel_iff, hz]
          refine xs_aload_0 eX8_releaseJob_123 ?_
          refine xs_iload_1 eX8_releaseJob_124 ?_
          refine xa_iconst eX8_releaseJob_125 ?_
          refine xs_aload_0 eX8_releaseJob_126 ?_
          refine xa_iconst eX8_releaseJob_127 ?_
          refine xbi_V10 (mi' := mX8_number) (y := yX8_number) eX8_releaseJob_128 (xw_5 lRX8_65 wy_X8_number) rfl ⟨wd_X8_number, by decide, by decide⟩ (by decide) (fun _ => rfl) rfl (Nat.le_of_ble_eq_true rfl) rfl (k_X8_number (i := 0) rfl (by decide) ?_)
          try simp (decide := true) only [stM_31, up_stM, upM, q1, q2, q3, q4, q10, q11, q15, qt, if_true, if_false, Nat.add_left_cancel_iff, hz]
          refine xs_aload_0 eX8_releaseJob_131 ?_
          refine xs_iload_1 eX8_releaseJob_132 ?_
          refine xa_iconst eX8_releaseJob_133 ?_
          refine xbi_V20 (mi' := mX8_told0) (y := yX8_told0) eX8_releaseJob_134 (xw_5 lRX8_122 wy_X8_told0) rfl ⟨wd_X8_told0, by decide, by decide⟩ (by decide) (fun _ => rfl) rfl (Nat.le_of_ble_eq_true rfl) rfl (k_X8_told0 (p := j) (g := 2) rfl rfl hj20 (by decide) ?_)
          try simp (decide := true) only [stM_31, up_stM, upM, q1, q2, q3, q4, q10, q11, q15, qt, if_true, if_false, Nat.add_left_cancel_iff, hz]
          refine xa_iadd eX8_releaseJob_137 ?_
          refine xbv_V30 (mi' := mX8_keep) (y := yX8_keep) eX8_releaseJob_138 (xw_5 lRX8_137 wy_X8_keep) rfl ⟨wd_X8_keep, by decide, by decide⟩ (by decide) (fun _ => rfl) rfl (Nat.le_of_ble_eq_true rfl) rfl (k_X8_keep (p := j) (g := 5) rfl rfl hj20 (by decide) (by omega) ?_)
          try simp (decide := true) only [stM_31, up_stM, upM, q1, q2, q3, q4, q10, q11, q15, qt, if_true, if_false, Nat.add_left_cancel_iff, hz]
          refine xs_aload_0 eX8_releaseJob_141 ?_
          refine xs_iload_1 eX8_releaseJob_142 ?_
          refine xa_bipush eX8_releaseJob_143 (by decide) ?_
          refine xa_iconst eX8_releaseJob_145 ?_
          refine xbv_V30 (mi' := mX8_keep) (y := yX8_keep) eX8_releaseJob_146 (xw_5 lRX8_137 wy_X8_keep) rfl ⟨wd_X8_keep, by decide, by decide⟩ (by decide) (fun _ => rfl) rfl (Nat.le_of_ble_eq_true rfl) rfl (k_X8_keep (p := j) (g := 17) rfl rfl hj20 (by decide) (by decide) ?_)
          try simp (decide := true) only [stM_31, up_stM, upM, q1, q2, q3, q4, q10, q11, q15, qt, if_true, if_false, Nat.add_left_cancel_iff, hz]
          refine xs_aload_0 eX8_releaseJob_149 ?_
          refine xs_iload_1 eX8_releaseJob_150 ?_
          refine xa_bipush eX8_releaseJob_151 (by decide) ?_
          refine xs_aload_0 eX8_releaseJob_153 ?_
          refine xs_iload_1 eX8_releaseJob_154 ?_
          refine xa_bipush eX8_releaseJob_155 (by decide) ?_
          refine xbi_V20 (mi' := mX8_told0) (y := yX8_told0) eX8_releaseJob_157 (xw_5 lRX8_122 wy_X8_told0) rfl ⟨wd_X8_told0, by decide, by decide⟩ (by decide) (fun _ => rfl) rfl (Nat.le_of_ble_eq_true rfl) rfl (k_X8_told0 (p := j) (g := 15) rfl rfl hj20 (by decide) ?_)
          try simp (decide := true) only [stM_31, up_stM, upM, q1, q2, q3, q4, q10, q11, q15, qt, if_true, if_false, Nat.add_left_cancel_iff, hz]
          refine xa_iconst eX8_releaseJob_160 ?_
          refine xa_iadd eX8_releaseJob_161 ?_
          refine xbv_V30 (mi' := mX8_keep) (y := yX8_keep) eX8_releaseJob_162 (xw_5 lRX8_137 wy_X8_keep) rfl ⟨wd_X8_keep, by decide, by decide⟩ (by decide) (fun _ => rfl) rfl (Nat.le_of_ble_eq_true rfl) rfl (k_X8_keep (p := j) (g := 15) rfl rfl hj20 (by decide) (by omega) ?_)
          try simp (decide := true) only [stM_31, up_stM, upM, q1, q2, q3, q4, q10, q11, q15, qt, if_true, if_false, Nat.add_left_cancel_iff, hz]
          refine xa_vret eX8_releaseJob_165 rfl ⟨rfl, hq _ (hR.row hj hV.2.1 (fun i hi => ?_) ((hR.2.2.1 j hj).rel h5 (by omega) (by omega) (fun f hf => ?_) (by omega)))⟩
          · simp only [upM]
            repeat rw [if_neg (by omega)]
          · show upM _ _ _ _ = _
            simp only [upM, Nat.add_left_cancel_iff]
            have hf9 : f = 0 ∨ f = 1 ∨ f = 2 ∨ f = 3 ∨ f = 4 ∨ f = 5 ∨ f = 6 ∨ f = 7 ∨ f = 8 ∨ f = 9 ∨ f = 10 ∨ f = 11 ∨ f = 12 ∨ f = 13 ∨ f = 14 ∨ f = 15 ∨ f = 16 ∨ f = 17 := by omega
            rcases hf9 with rfl | rfl | rfl | rfl | rfl | rfl | rfl | rfl | rfl | rfl | rfl | rfl | rfl | rfl | rfl | rfl | rfl | rfl <;> simp (decide := true) only [if_true, if_false] <;> (first | rfl | omega | exact hR.q hj (by decide) (by decide) (by decide) (by decide) | ((repeat (first | rw [if_pos (by omega)] | rw [if_neg (by omega)])); first | rfl | omega))
        · refine xa_iconst eX8_releaseJob_77 ?_
          refine xa_goto (tgt := 88) eX8_releaseJob_78 (by decide) ?_
          refine xbv_V30 (mi' := mX8_keep) (y := yX8_keep) eX8_releaseJob_88 (xw_5 lRX8_137 wy_X8_keep) rfl ⟨wd_X8_keep, by decide, by decide⟩ (by decide) (fun _ => rfl) rfl (Nat.le_of_ble_eq_true rfl) rfl (k_X8_keep (p := j) (g := 10) rfl rfl hj20 (by decide) (by omega) ?_)
          try simp (decide := true) only [stM_31, up_stM, upM, q1, q2, q3, q4, q10, q11, q15, qt, if_true, if_false, Nat.add_left_cancel_iff, hz]
          refine xs_aload_0 eX8_releaseJob_91 ?_
          refine xs_iload_1 eX8_releaseJob_92 ?_
          refine xa_bipush eX8_releaseJob_93 (by decide) ?_
          refine xs_aload_0 eX8_releaseJob_95 ?_
          refine xs_iload_1 eX8_releaseJob_96 ?_
          refine xa_iconst eX8_releaseJob_97 ?_
          refine xbi_V20 (mi' := mX8_told0) (y := yX8_told0) eX8_releaseJob_98 (xw_5 lRX8_122 wy_X8_told0) rfl ⟨wd_X8_told0, by decide, by decide⟩ (by decide) (fun _ => rfl) rfl (Nat.le_of_ble_eq_true rfl) rfl (k_X8_told0 (p := j) (g := 3) rfl rfl hj20 (by decide) ?_)
          try simp (decide := true) only [stM_31, up_stM, upM, q1, q2, q3, q4, q10, q11, q15, qt, if_true, if_false, Nat.add_left_cancel_iff, hz]
          refine xbv_V30 (mi' := mX8_keep) (y := yX8_keep) eX8_releaseJob_101 (xw_5 lRX8_137 wy_X8_keep) rfl ⟨wd_X8_keep, by decide, by decide⟩ (by decide) (fun _ => rfl) rfl (Nat.le_of_ble_eq_true rfl) rfl (k_X8_keep (p := j) (g := 6) rfl rfl hj20 (by decide) (by omega) ?_)
          try simp (decide := true) only [stM_31, up_stM, upM, q1, q2, q3, q4, q10, q11, q15, qt, if_true, if_false, Nat.add_left_cancel_iff, hz]
          refine xs_aload_0 eX8_releaseJob_104 ?_
          refine xs_iload_1 eX8_releaseJob_105 ?_
          refine xa_bipush eX8_releaseJob_106 (by decide) ?_
          refine xs_aload_0 eX8_releaseJob_108 ?_
          refine xa_iconst eX8_releaseJob_109 ?_
          refine xbi_V10 (mi' := mX8_number) (y := yX8_number) eX8_releaseJob_110 (xw_5 lRX8_65 wy_X8_number) rfl ⟨wd_X8_number, by decide, by decide⟩ (by decide) (fun _ => rfl) rfl (Nat.le_of_ble_eq_true rfl) rfl (k_X8_number (i := 0) rfl (by decide) ?_)
          try simp (decide := true) only [stM_31, up_stM, upM, q1, q2, q3, q4, q10, q11, q15, qt, if_true, if_false, Nat.add_left_cancel_iff, hz]
          refine xs_aload_0 eX8_releaseJob_113 ?_
          refine xs_iload_1 eX8_releaseJob_114 ?_
          refine xa_iconst eX8_releaseJob_115 ?_
          refine xbi_V20 (mi' := mX8_told0) (y := yX8_told0) eX8_releaseJob_116 (xw_5 lRX8_122 wy_X8_told0) rfl ⟨wd_X8_told0, by decide, by decide⟩ (by decide) (fun _ => rfl) rfl (Nat.le_of_ble_eq_true rfl) rfl (k_X8_told0 (p := j) (g := 4) rfl rfl hj20 (by decide) ?_)
          try simp (decide := true) only [stM_31, up_stM, upM, q1, q2, q3, q4, q10, q11, q15, qt, if_true, if_false, Nat.add_left_cancel_iff, hz]
          refine xa_iadd eX8_releaseJob_119 ?_
          refine xbv_V30 (mi' := mX8_keep) (y := yX8_keep) eX8_releaseJob_120 (xw_5 lRX8_137 wy_X8_keep) rfl ⟨wd_X8_keep, by decide, by decide⟩ (by decide) (fun _ => rfl) rfl (Nat.le_of_ble_eq_true rfl) rfl (k_X8_keep (p := j) (g := 7) rfl rfl hj20 (by decide) (by omega) ?_)
          try simp (decide := true) only [stM_31, up_stM, upM, q1, q2, q3, q4, q10, q11, q15, qt, if_true, if_false, Nat.add_left_cancel_iff, hz]
          refine xs_aload_0 eX8_releaseJob_123 ?_
          refine xs_iload_1 eX8_releaseJob_124 ?_
          refine xa_iconst eX8_releaseJob_125 ?_
          refine xs_aload_0 eX8_releaseJob_126 ?_
          refine xa_iconst eX8_releaseJob_127 ?_
          refine xbi_V10 (mi' := mX8_number) (y := yX8_number) eX8_releaseJob_128 (xw_5 lRX8_65 wy_X8_number) rfl ⟨wd_X8_number, by decide, by decide⟩ (by decide) (fun _ => rfl) rfl (Nat.le_of_ble_eq_true rfl) rfl (k_X8_number (i := 0) rfl (by decide) ?_)
          try simp (decide := true) only [stM_31, up_stM, upM, q1, q2, q3, q4, q10, q11, q15, qt, if_true, if_false, Nat.add_left_cancel_iff, hz]
          refine xs_aload_0 eX8_releaseJob_131 ?_
          refine xs_iload_1 eX8_releaseJob_132 ?_
          refine xa_iconst eX8_releaseJob_133 ?_
          refine xbi_V20 (mi' := mX8_told0) (y := yX8_told0) eX8_releaseJob_134 (xw_5 lRX8_122 wy_X8_told0) rfl ⟨wd_X8_told0, by decide, by decide⟩ (by decide) (fun _ => rfl) rfl (Nat.le_of_ble_eq_true rfl) rfl (k_X8_told0 (p := j) (g := 2) rfl rfl hj20 (by decide) ?_)
          try simp (decide := true) only [stM_31, up_stM, upM, q1, q2, q3, q4, q10, q11, q15, qt, if_true, if_false, Nat.add_left_cancel_iff, hz]
          refine xa_iadd eX8_releaseJob_137 ?_
          refine xbv_V30 (mi' := mX8_keep) (y := yX8_keep) eX8_releaseJob_138 (xw_5 lRX8_137 wy_X8_keep) rfl ⟨wd_X8_keep, by decide, by decide⟩ (by decide) (fun _ => rfl) rfl (Nat.le_of_ble_eq_true rfl) rfl (k_X8_keep (p := j) (g := 5) rfl rfl hj20 (by decide) (by omega) ?_)
          try simp (decide := true) only [stM_31, up_stM, upM, q1, q2, q3, q4, q10, q11, q15, qt, if_true, if_false, Nat.add_left_cancel_iff, hz]
          refine xs_aload_0 eX8_releaseJob_141 ?_
          refine xs_iload_1 eX8_releaseJob_142 ?_
          refine xa_bipush eX8_releaseJob_143 (by decide) ?_
          refine xa_iconst eX8_releaseJob_145 ?_
          refine xbv_V30 (mi' := mX8_keep) (y := yX8_keep) eX8_releaseJob_146 (xw_5 lRX8_137 wy_X8_keep) rfl ⟨wd_X8_keep, by decide, by decide⟩ (by decide) (fun _ => rfl) rfl (Nat.le_of_ble_eq_true rfl) rfl (k_X8_keep (p := j) (g := 17) rfl rfl hj20 (by decide) (by decide) ?_)
          try simp (decide := true) only [stM_31, up_stM, upM, q1, q2, q3, q4, q10, q11, q15, qt, if_true, if_false, Nat.add_left_cancel_iff, hz]
          refine xs_aload_0 eX8_releaseJob_149 ?_
          refine xs_iload_1 eX8_releaseJob_150 ?_
          refine xa_bipush eX8_releaseJob_151 (by decide) ?_
          refine xs_aload_0 eX8_releaseJob_153 ?_
          refine xs_iload_1 eX8_releaseJob_154 ?_
          refine xa_bipush eX8_releaseJob_155 (by decide) ?_
          refine xbi_V20 (mi' := mX8_told0) (y := yX8_told0) eX8_releaseJob_157 (xw_5 lRX8_122 wy_X8_told0) rfl ⟨wd_X8_told0, by decide, by decide⟩ (by decide) (fun _ => rfl) rfl (Nat.le_of_ble_eq_true rfl) rfl (k_X8_told0 (p := j) (g := 15) rfl rfl hj20 (by decide) ?_)
          try simp (decide := true) only [stM_31, up_stM, upM, q1, q2, q3, q4, q10, q11, q15, qt, if_true, if_false, Nat.add_left_cancel_iff, hz]
          refine xa_iconst eX8_releaseJob_160 ?_
          refine xa_iadd eX8_releaseJob_161 ?_
          refine xbv_V30 (mi' := mX8_keep) (y := yX8_keep) eX8_releaseJob_162 (xw_5 lRX8_137 wy_X8_keep) rfl ⟨wd_X8_keep, by decide, by decide⟩ (by decide) (fun _ => rfl) rfl (Nat.le_of_ble_eq_true rfl) rfl (k_X8_keep (p := j) (g := 15) rfl rfl hj20 (by decide) (by omega) ?_)
          try simp (decide := true) only [stM_31, up_stM, upM, q1, q2, q3, q4, q10, q11, q15, qt, if_true, if_false, Nat.add_left_cancel_iff, hz]
          refine xa_vret eX8_releaseJob_165 rfl ⟨rfl, hq _ (hR.row hj hV.2.1 (fun i hi => ?_) ((hR.2.2.1 j hj).rel h5 (by omega) (by omega) (fun f hf => ?_) (by omega)))⟩
          · simp only [upM]
            repeat rw [if_neg (by omega)]
          · show upM _ _ _ _ = _
            simp only [upM, Nat.add_left_cancel_iff]
            have hf9 : f = 0 ∨ f = 1 ∨ f = 2 ∨ f = 3 ∨ f = 4 ∨ f = 5 ∨ f = 6 ∨ f = 7 ∨ f = 8 ∨ f = 9 ∨ f = 10 ∨ f = 11 ∨ f = 12 ∨ f = 13 ∨ f = 14 ∨ f = 15 ∨ f = 16 ∨ f = 17 := by omega
            rcases hf9 with rfl | rfl | rfl | rfl | rfl | rfl | rfl | rfl | rfl | rfl | rfl | rfl | rfl | rfl | rfl | rfl | rfl | rfl <;> simp (decide := true) only [if_true, if_false] <;> (first | rfl | omega | exact hR.q hj (by decide) (by decide) (by decide) (by decide) | ((repeat (first | rw [if_pos (by omega)] | rw [if_neg (by omega)])); first | rfl | omega))
theorem VS.reli {s n N : Nat} {T : Int} {C : xS} (h : VS s n N T C) (i : Nat) (hi : i ≤ N) : VS s n N (T + 1) (relT s i C) := by
  obtain ⟨⟨a1, a2, a3, a4⟩, h2, h3, h4, h5, h6, h7⟩ := h
  have e : ∀ j, relT s i C 10 (32 * s + j) = C 10 (32 * s + j) ∨ (C 10 (32 * s + j) 0 = 0 ∧ C 10 (32 * s + j) 5 = C 2 s 2 ∧ relT s i C 10 (32 * s + j) = xrel (C 10 (32 * s + j))) := fun j => by
    by_cases c : 32 * s ≤ 32 * s + j ∧ 32 * s + j < 32 * s + i ∧ C 10 (32 * s + j) 0 = 0 ∧ C 10 (32 * s + j) 5 = C 2 s 2
    · exact Or.inr ⟨c.2.2.1, c.2.2.2, by funext f; unfold relT; rw [if_pos ⟨rfl, c⟩]⟩
    · exact Or.inl (by funext f; unfold relT; rw [if_neg (fun z => c z.2)])
  refine ⟨⟨by rw [relT_o (by decide)]; exact a1, a2, by rw [relT_o (by decide)]; omega, fun j hj => ?_⟩, h2, h3, by rw [relT_o (by decide)]; exact h4.mono (by omega), fun p hp => by rw [relT_o (by decide)]; exact (h5 p hp).mono (by omega), fun j hj => ?_, by rw [relT_o (by decide), relT_o (by decide)]; exact h7.mono (by omega)⟩
  · rw [relT_o (show 2 ≠ 10 by decide)]
    rcases e j with e | ⟨c0, c5, e⟩ <;> rw [e]
    · exact (a4 j hj).mono (by omega) (by omega)
    · exact (a4 j hj).rel a3.1 c0 c5
  · rw [relT_o (show 2 ≠ 10 by decide)]
    rcases e j with e | ⟨c0, c5, e⟩ <;> rw [e]
    · exact (h6 j hj).mono (by omega) (Nat.le_refl _)
    · exact (h6 j hj).rel (a4 j hj) c5
set_option maxHeartbeats 400000 in
theorem f_X8_releaseAll {w : xW} {S : xS} {B : String → xS → Prop} {A : xS → Prop} {s n N : Nat} {T : Int} {C : xS} {M : Nat → Int} (hV : VS s n N T C) (hT : T ≤ 900000) (hR : Rel s n N C M) (hq : ∀ M', Rel s n N (relT s N C) M' → A (stM M' S)) : Kv w mX8_releaseAll yX8_releaseAll 0 0 [xp 30 0] (stM M S) A B := by
  refine K.of rfl rfl rfl rfl (Nat.le_of_ble_eq_true rfl) rfl ?_
  have hN20 := hV.2.1
  have ht := hV.1.2.2.1
  have lp : ∀ i : Nat, i ≤ N → ∀ (Mi : Nat → Int) (_ : Rel s n N (relT s i C) Mi), X w mX8_releaseAll (xTG w (fun v S' => v = none ∧ A S') B) 0 0 2 [xp 30 0, xi (i : Int)] [] (stM Mi S) := by
    refine nloop (N) (fun i hi ih Mi hR => ?_)
    have h2 : Mi 2 = (N : Int) := by rw [hR.1 2 (by decide)]; show relT s i C 2 s 1 = _; rw [relT_o (by decide)]; exact hV.1.1
    have h0 : Mi 0 = C 2 s 2 := by rw [hR.1 0 (by decide)]; show relT s i C 2 s 2 = _; rw [relT_o (by decide)]
    have hq5 : i < N → Mi (103 + 18 * i + 5) = C 10 (32 * s + i) 5 := fun z => by rw [hR.q z (by decide) (by decide) (by decide) (by decide), relT_r (Nat.le_refl _)]
    have hq0 : i < N → Mi (103 + 18 * i + 0) = C 10 (32 * s + i) 0 := fun z => by rw [hR.q z (by decide) (by decide) (by decide) (by decide), relT_r (Nat.le_refl _)]
    have hVi := VS.reli hV i hi
    have hTi : i < N → TQ (C 2 s 2) T (C 10 (32 * s + i)) := fun z => hV.t z
    unfold TQ at hTi
    refine xs_iload_1 eX8_releaseAll_2 ?_
    refine xa_i2l eX8_releaseAll_3 (by omega) ?_
    refine xs_aload_0 eX8_releaseAll_4 ?_
    refine g_X8_0 eX8_releaseAll_5 lRX8_7 ?_
    refine xa_iconst eX8_releaseAll_8 ?_
    refine gar_31 eX8_releaseAll_9 (by omega) (fun r9 => ?_)
    try simp (decide := true) only [h2, h0, stM_31, show (0 : Int).toNat = 0 from rfl, show (1 : Int).toNat = 1 from rfl, show (2 : Int).toNat = 2 from rfl, show (3 : Int).toNat = 3 from rfl, show (4 : Int).toNat = 4 from rfl, show (5 : Int).toNat = 5 from rfl, show (6 : Int).toNat = 6 from rfl, show (7 : Int).toNat = 7 from rfl, show (8 : Int).toNat = 8 from rfl, show (9 : Int).toNat = 9 from rfl, show (10 : Int).toNat = 10 from rfl, show (11 : Int).toNat = 11 from rfl, show (12 : Int).toNat = 12 from rfl, show (13 : Int).toNat = 13 from rfl, show (14 : Int).toNat = 14 from rfl, Int.toNat_natCast] at r9 ⊢
    refine xa_lcmp eX8_releaseAll_10 (by omega) (by omega) ?_
    refine xa_ifc_ge (tgt := 50) eX8_releaseAll_11 (by decide) (fun c11 => ?_) (fun c11 => ?_)
    · exact xa_vret eX8_releaseAll_50 rfl ⟨rfl, hq Mi (by rw [show N = i by omega] at hR ⊢; exact hR)⟩
    · refine xs_aload_0 eX8_releaseAll_14 ?_
      refine xs_iload_1 eX8_releaseAll_15 ?_
      refine xbi_V10 (mi' := mX8_hasEnded) (y := yX8_hasEnded) eX8_releaseAll_16 (xw_5 lRX8_119 wy_X8_hasEnded) rfl ⟨wd_X8_hasEnded, by decide, by decide⟩ (by decide) (fun _ => rfl) rfl (Nat.le_of_ble_eq_true rfl) rfl (k_X8_hasEnded (j := i) rfl (by omega) (by rw [stM_31, hq0 (by omega)]; omega) ?_)
      rw [stM_31, hq0 (by omega)]
      refine xa_ifb_ne (tgt := 44) eX8_releaseAll_19 (by decide) (fun c19 => ?_) (fun c19 => ?_)
      · refine xs_iinc_1 eX8_releaseAll_44 rfl ?_
        refine xa_goto (tgt := 2) eX8_releaseAll_47 (by decide) ?_
        refine ih (i + 1) (by omega) (by omega) Mi ?_
        rw [relT_s, if_neg (by omega)]
        exact hR
      · refine xs_aload_0 eX8_releaseAll_22 ?_
        refine xs_iload_1 eX8_releaseAll_23 ?_
        refine xa_iconst eX8_releaseAll_24 ?_
        refine xbi_V20 (mi' := mX8_told0) (y := yX8_told0) eX8_releaseAll_25 (xw_5 lRX8_122 wy_X8_told0) rfl ⟨wd_X8_told0, by decide, by decide⟩ (by decide) (fun _ => rfl) rfl (Nat.le_of_ble_eq_true rfl) rfl (k_X8_told0 (p := i) (g := 5) rfl rfl (by omega) (by decide) ?_)
        rw [stM_31, hq5 (by omega)]
        refine xa_i2l eX8_releaseAll_28 (by omega) ?_
        refine xs_aload_0 eX8_releaseAll_29 ?_
        refine g_X8_0 eX8_releaseAll_30 lRX8_7 ?_
        refine xa_iconst eX8_releaseAll_33 ?_
        refine gar_31 eX8_releaseAll_34 (by omega) (fun r34 => ?_)
        try simp (decide := true) only [h2, h0, stM_31, show (0 : Int).toNat = 0 from rfl, show (1 : Int).toNat = 1 from rfl, show (2 : Int).toNat = 2 from rfl, show (3 : Int).toNat = 3 from rfl, show (4 : Int).toNat = 4 from rfl, show (5 : Int).toNat = 5 from rfl, show (6 : Int).toNat = 6 from rfl, show (7 : Int).toNat = 7 from rfl, show (8 : Int).toNat = 8 from rfl, show (9 : Int).toNat = 9 from rfl, show (10 : Int).toNat = 10 from rfl, show (11 : Int).toNat = 11 from rfl, show (12 : Int).toNat = 12 from rfl, show (13 : Int).toNat = 13 from rfl, show (14 : Int).toNat = 14 from rfl, Int.toNat_natCast] at r34 ⊢
        refine xa_lcmp eX8_releaseAll_35 (by omega) (by omega) ?_
        refine xa_ifc_ne (tgt := 44) eX8_releaseAll_36 (by decide) (fun c36 => ?_) (fun c36 => ?_)
        · refine xs_iinc_1 eX8_releaseAll_44 rfl ?_
          refine xa_goto (tgt := 2) eX8_releaseAll_47 (by decide) ?_
          refine ih (i + 1) (by omega) (by omega) Mi ?_
          rw [relT_s, if_neg (by omega)]
          exact hR
        · refine xs_aload_0 eX8_releaseAll_39 ?_
          refine xs_iload_1 eX8_releaseAll_40 ?_
          refine xbv_V10 (mi' := mX8_releaseJob) (y := yX8_releaseJob) eX8_releaseAll_41 (xw_5 lRX8_235 wy_X8_releaseJob) rfl ⟨wd_X8_releaseJob, by decide, by decide⟩ (by decide) (fun _ => rfl) rfl (Nat.le_of_ble_eq_true rfl) rfl (f_X8_releaseJob hVi (by omega) hR (by omega) (by rw [relT_r (Nat.le_refl _), relT_o (by decide)]; exact c36) (fun M2 hR2 => ?_))
          refine xs_iinc_1 eX8_releaseAll_44 rfl ?_
          refine xa_goto (tgt := 2) eX8_releaseAll_47 (by decide) ?_
          refine ih (i + 1) (by omega) (by omega) M2 ?_
          rw [relT_s, if_pos (by omega)]
          rw [relT_r (Nat.le_refl _)] at hR2
          exact hR2
  refine xa_iconst eX8_releaseAll_0 ?_
  refine xs_istore_1 eX8_releaseAll_1 rfl ?_
  exact lp 0 (by omega) M (by rw [relT_0]; exact hR)
