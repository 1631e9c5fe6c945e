/-! the law: trades -/
theorem BS.r {q : Int} {C S : xS} {N j : Nat} (h : BS q C S) (hN : N ≤ 20) (hj : j < N) : S 10 j = C 10 j := h.at (by decide) (by decide) (by unfold sct; omega)
theorem BS.t {q : Int} {C S : xS} (h : BS q C S) : S 2 0 = C 2 0 := h.at (by decide) (by decide) (by unfold sct; omega)
theorem BS.p {q : Int} {C S : xS} {p : Nat} (h : BS q C S) (hp : p < 4) : S 4 p = C 4 p := h.at (by decide) (by decide) (by unfold sct; omega)
theorem LIN.ask {T : Int} {N j : Nat} {a : Int} {C : xS} (h : LIN T N C) (hT : T ≤ 790000) (hj : j < N) (ha : -1 ≤ a ∧ a ≤ 99999) (h0 : C 10 j 0 = 0) : LIN (T + 1500) N (up C 10 j 9 a) := by
  refine h.ivo hT (fun z => i_ask (j := (j : Int)) (a := a) h.1 h.2.1 ⟨z, by omega⟩) (c := 0) (v := C 10 j 9) ?_ (h.2.2.1.ask hj h0) (fun z i hi => ?_) (up_k (by decide))
  · unfold o_ask
    rw [if_pos ⟨by omega, by omega⟩, if_pos ha, Int.toNat_natCast, e32, if_pos h0]
  · rw [up_f (by decide), up_f (by decide)]; exact h.2.2.2.2.2 z i hi
theorem LIN.sel {T : Int} {N j r : Nat} {C : xS} (h : LIN T N C) (hT : T ≤ 790000) (hj : j < N) (hr : r < 4) (hc : canP j r C) : LIN (T + 1500) N (selS 0 j r (C 10 j 1).toNat C) := by
  have hc2 := hc
  unfold canP at hc2
  rw [e32, e08] at hc2
  have hO := h.1.O hj
  unfold OQ at hO
  obtain ⟨s1, s2, s3, s4, s5, s6, s7, s8⟩ := sel_all h.1 h.2.2.1 hj hr (o := (C 10 j 1).toNat) (by omega) (by omega) (by omega) hc2.2.2
  refine h.ivo hT (fun z => i_buy (j := (j : Int)) (q := (r : Int)) h.1 h.2.1 ⟨z, by omega⟩) (c := 0) (v := C 10 j 1) ?_ s1 (fun z i hi => ?_) (by rw [s8 2 (by decide)])
  · unfold o_buy
    rw [if_pos ⟨by omega, by omega⟩, if_pos ⟨by omega, by omega⟩, Int.toNat_natCast, Int.toNat_natCast, if_pos hc, e32]
  · have e : ∀ f, f ≠ 1 → f ≠ 9 → selS 0 j r (C 10 j 1).toNat C 10 i f = C 10 i f := fun f h1 h9 => by
      unfold selS
      simp only [up_app]
      simp [h1, h9]
    rw [e 0 (by decide) (by decide), e 5 (by decide) (by decide)]
    exact h.2.2.2.2.2 z i hi
theorem LIN.lea {T : Int} {N j r : Nat} {k a : Int} {C : xS} (h : LIN T N C) (hT : T ≤ 790000) (hj : j < N) (hr : r < 4) (hk : (1 ≤ k ∧ k ≤ 50) ∧ 0 ≤ a ∧ a ≤ 999) (hc : leaP j r (k * a) C) : LIN (T + 1500) N (leaS j r (C 10 j 1).toNat k (k * a) C) ∧ mon (leaS j r (C 10 j 1).toNat k (k * a) C) = mon C ∧ leaS j r (C 10 j 1).toNat k (k * a) C 10 j 10 = (r : Int) ∧ leaS j r (C 10 j 1).toNat k (k * a) C 10 j 11 = k := by
  have hc2 := hc
  unfold leaP at hc2
  rw [e32, e08] at hc2
  have hO := h.1.O hj
  unfold OQ at hO
  have hz : 0 ≤ k * a := Int.mul_nonneg (by omega) (by omega)
  obtain ⟨s1, s2, s3, s4, s5⟩ := lea_all (k := k) (c := k * a) h.1 h.2.2.1 hj hc2.1 hr (o := (C 10 j 1).toNat) (by omega) (by omega) ⟨hz, hc2.2.2.2⟩
  refine ⟨?_, s2, s3, s4⟩
  refine h.ivo hT (fun z => i_lease (j := (j : Int)) (q := (r : Int)) (k := k) (a := a) h.1 h.2.1 ⟨z, by omega⟩) (c := 0) (v := k * a) ?_ s1 (fun z i hi => ?_) (by rw [s5 2 (by decide)])
  · unfold o_lease
    rw [if_pos ⟨by omega, by omega⟩, if_pos ⟨by omega, by omega⟩, if_pos hk, Int.toNat_natCast, Int.toNat_natCast, if_pos hc, e32]
  · have e : ∀ f, f ≠ 10 → f ≠ 11 → leaS j r (C 10 j 1).toNat k (k * a) C 10 i f = C 10 i f := fun f h1 h9 => by
      unfold leaS
      simp only [up_app]
      simp [h1, h9]
    rw [e 0 (by decide) (by decide), e 5 (by decide) (by decide)]
    exact h.2.2.2.2.2 z i hi
theorem LIN.div {T : Int} {N i : Nat} {a : Int} {C : xS} (h : LIN T N C) (hT : T ≤ 790000) (hi : i < N) (hN : N < 20) (h0 : C 10 i 0 = 0) (ha : 1 ≤ a ∧ a ≤ C 10 i 3 - 1) : LIN (T + 1500) (N + 1) (divS 0 N i a C) := by
  obtain ⟨a1, a2, a3, a4, a5⟩ := div_at (N := N) (i := i) (a := a) (C := C) hi
  have hQ := h.1.Q hi
  unfold TQ at hQ
  refine h.ivo hT (fun z => i_split (j := (i : Int)) (a := a) h.1 h.2.1 ⟨z, by omega⟩) (c := 0) (v := (N : Int)) ?_ (h.2.2.1.div hi h0 ha (by omega)) (fun z j hj => ?_) a2
  · unfold o_split
    rw [if_pos ⟨by omega, by omega⟩, Int.toNat_natCast, e32, if_pos ha, if_pos ⟨h0, hN⟩]
  · by_cases c : j = N
    · rw [c, a5]
      intro _
      exact h.2.2.2.2.2 z i hi h0
    · by_cases c2 : j = i
      · rw [c2, a4]
        intro _
        exact h.2.2.2.2.2 z i hi h0
      · rw [a3 j c c2]; exact h.2.2.2.2.2 z j (by omega)
theorem fin_at {i : Nat} {C : xS} : (∀ k j, ¬ (k = 10 ∧ j = i) → rwS 10 i (xfin (C 10 i)) C k j = C k j) ∧ rwS 10 i (xfin (C 10 i)) C 10 i = xfin (C 10 i) := by
  refine ⟨fun k j hk => ?_, ?_⟩
  · funext f; unfold rwS; rw [if_neg hk]
  · funext f; unfold rwS; rw [if_pos ⟨rfl, rfl⟩]
theorem LIN.fin {T : Int} {N i : Nat} {C : xS} (h : LIN T N C) (hT : T ≤ 790000) (hi : i < N) (h0 : C 10 i 0 = 0) : LIN (T + 1500) N (rwS 10 i (xfin (C 10 i)) C) := by
  obtain ⟨a1, a2⟩ := fin_at (i := i) (C := C)
  have hQ := h.1.Q hi
  unfold TQ at hQ
  have ht := h.1.1.2.2.1
  refine h.ivo hT (fun z => i_end (j := (i : Int)) h.1 h.2.1 ⟨z, by omega⟩) (c := 0) (v := C 10 i 6) ?_ (h.2.2.1.fin hi ht.1 (by omega) (by omega)) (fun z j hj => ?_) (by rw [a1 2 0 (by omega)])
  · unfold o_end
    rw [if_pos ⟨by omega, by omega⟩, Int.toNat_natCast, e32, if_pos h0]
  · by_cases c : j = i
    · rw [c, a2]
      intro hx
      exact absurd hx (show ¬ (1 : Int) = 0 by decide)
    · rw [a1 10 j (by omega)]; exact h.2.2.2.2.2 z j hj
theorem par_pos {n N : Nat} {S : xS} {z : Nat} (hz : z < 64) (h : 0 < S 25 0 z) : 0 < (o_partners n N S).2.1 ∧ (o_partners n N S).2.1 ≤ 64 := by
  have hg := sm_ge (g := fun j => if 0 < S 25 0 j then 1 else 0) (n := 64) (h := z) (fun p _ => by split <;> omega) hz
  have hg2 := sm_range (g := fun j => if 0 < S 25 0 j then 1 else 0) (lo := 0) (hi := 1) (n := 64) (fun p _ => by split <;> omega)
  rw [if_pos h] at hg
  show 0 < sm _ 64 ∧ sm _ 64 ≤ 64
  omega
set_option maxHeartbeats 4000000 in
theorem t_ask {w : xW} {S C : xS} {B : String → xS → Prop} {A : Int → xS → Prop} {N j r : Nat} {T q : Int} (hB : BS q C S) (hL : LIN T N C) (hT : T ≤ 780000) (hw : w.2.2.2.2.2.1 < 1000) (hQ : q ≤ 950000) (hj : j < N) (hr : r < 4) (hq : ∀ D N' S', LIN (T + 3000) N' D → BS (q + 4) D S' → A 1 S') : X w mL_trades (xTG w (fun v S' => ∃ a, v = some (xi a) ∧ A a S') B) 2 12 100 [xp 30 0, xi (N : Int), xi (r : Int), xi (j : Int), xi (1 - C 10 j 0), xi (C 10 j 1), xl (mon C), xj, xj, xj, xj, xj, xj, xj] [] S := by
  obtain ⟨hV, g, hE, hper, h21, hz⟩ := id hL
  have hT2 : T ≤ 800000 := by omega
  have hN := hV.2.1
  have ht0 := hV.1.2.2.1
  obtain ⟨r1, r2, r3, r4, r5, r6, r7, r8, r9, r10, r11, r12, r13, r14, r15, r16, r17, r18, r19⟩ := row_f hV g hE hj
  have hO := hV.O hj
  unfold OQ at hO
  have hmr := mon_r hV hE
  have hs6 := hV.2.2.2.2.2.2
  unfold SQ at hs6
  refine xs_aload_0 eL_trades_100 ?_
  refine g_X9_0 eL_trades_101 lRL_10 ?_
  refine xs_iload_3 eL_trades_104 ?_
  refine xa_bipush eL_trades_105 (by decide) ?_
  refine xbi_W30 (mi' := mL_told) (y := yL_told) eL_trades_107 (xw_4 lRL_171 wy_L_told) rfl ⟨wd_L_told, by decide, by decide⟩ (Nat.le_of_ble_eq_true rfl) rfl (wt_9 hB hV hT2 hj ?_)
  refine xs_istore_8 eL_trades_110 rfl ?_
  refine xs_aload_0 eL_trades_112 ?_
  refine xa_sipush eL_trades_113 (by decide) ?_
  refine xbi_V10 (mi' := mL_draw) (y := yL_draw) eL_trades_116 (xw_5 lRL_152 wy_L_draw) rfl ⟨wd_L_draw, by decide, by decide⟩ (by decide) (fun _ => rfl) rfl (Nat.le_of_ble_eq_true rfl) rfl (k_draw hw hB (by omega) (by decide) (fun d9 S1 l9 hB1 => ?_))
  refine xs_istore_9 eL_trades_119 rfl ?_
  refine xs_iload_4 eL_trades_121 ?_
  refine xa_if_ne (tgt := 149) eL_trades_123 (by decide) (by omega) (fun c123 => ?_) (fun c123 => ?_)
  · refine xs_aload_0 eL_trades_149 ?_
    refine g_X9_0 eL_trades_150 lRL_10 ?_
    refine xs_iload_3 eL_trades_153 ?_
    refine xs_iload_9 eL_trades_154 ?_
    refine xbi_W3 (mi' := mL_ask) (y := yL_ask) eL_trades_156 (xw_4 lRL_180 wy_L_ask) rfl ⟨wd_L_ask, by decide, by decide⟩ (Nat.le_of_ble_eq_true rfl) rfl ⟨by decide, by decide⟩ (w_ask hB1 hV hT2 hj (by omega) (fun n0 S9 hB9 => ?_) (fun n3 S8 hB8 => ?_))
    · have hL9 := (hB1.L hL).ask (by omega) hj (show -1 ≤ (d9 : Int) ∧ (d9 : Int) ≤ 99999 by omega) (by rw [hB1.r hN hj]; exact n0)
      have e9 : up S1 10 j 9 (d9 : Int) 10 j 9 = (d9 : Int) := up_same _ _ _ _ _
      generalize up S1 10 j 9 (d9 : Int) = D at hB9 hL9 e9
      refine xs_iload_8 eL_trades_159 ?_
      refine xa_icmp_ne (tgt := 183) eL_trades_161 (by decide) (by omega) (by omega) (fun c161 => ?_) (fun c161 => ?_)
      · exfalso; omega
      · refine xs_aload_0 eL_trades_164 ?_
        refine g_X9_0 eL_trades_165 lRL_10 ?_
        refine xs_iload_3 eL_trades_168 ?_
        refine xa_bipush eL_trades_169 (by decide) ?_
        refine xbi_W30 (mi' := mL_told) (y := yL_told) eL_trades_171 (xw_4 lRL_171 wy_L_told) rfl ⟨wd_L_told, by decide, by decide⟩ (Nat.le_of_ble_eq_true rfl) rfl (wt_9 hB9 hL9.1 (by omega) hj ?_)
        refine xs_iload_9 eL_trades_174 ?_
        refine xa_icmp_ne (tgt := 183) eL_trades_176 (by decide) (by omega) (by omega) (fun c176 => ?_) (fun c176 => ?_)
        · exfalso; omega
        · refine xa_iconst eL_trades_179 ?_
          refine xa_goto (tgt := 184) eL_trades_180 (by decide) ?_
          exact xa_zret eL_trades_184 rfl (by omega) ⟨_, rfl, (by first | exact hq _ _ _ (hL9.mono (by omega)) (hB9.mono (by omega)) | exact hq _ _ _ (hL.mono (by omega)) (hB8.mono (by omega)))⟩
    · exfalso; omega
  · refine xs_aload_0 eL_trades_126 ?_
    refine g_X9_0 eL_trades_127 lRL_10 ?_
    refine xs_iload_3 eL_trades_130 ?_
    refine xs_iload_9 eL_trades_131 ?_
    refine xbi_W3 (mi' := mL_ask) (y := yL_ask) eL_trades_133 (xw_4 lRL_180 wy_L_ask) rfl ⟨wd_L_ask, by decide, by decide⟩ (Nat.le_of_ble_eq_true rfl) rfl ⟨by decide, by decide⟩ (w_ask hB1 hV hT2 hj (by omega) (fun n0 S9 hB9 => ?_) (fun n3 S8 hB8 => ?_))
    · exfalso; omega
    · refine xa_bipush eL_trades_136 (by decide) ?_
      refine xa_icmp_ne (tgt := 145) eL_trades_138 (by decide) (by decide) (by decide) (fun c138 => ?_) (fun c138 => ?_)
      · exfalso; omega
      · refine xa_iconst eL_trades_141 ?_
        refine xa_goto (tgt := 184) eL_trades_142 (by decide) ?_
        exact xa_zret eL_trades_184 rfl (by omega) ⟨_, rfl, (by first | exact hq _ _ _ (hL9.mono (by omega)) (hB9.mono (by omega)) | exact hq _ _ _ (hL.mono (by omega)) (hB8.mono (by omega)))⟩
set_option maxHeartbeats 4000000 in
theorem t_buy {w : xW} {S C : xS} {B : String → xS → Prop} {A : Int → xS → Prop} {N j r : Nat} {T q : Int} (hB : BS q C S) (hL : LIN T N C) (hT : T ≤ 780000) (hw : w.2.2.2.2.2.1 < 1000) (hQ : q ≤ 950000) (hj : j < N) (hr : r < 4) (hq : ∀ D N' S', LIN (T + 3000) N' D → BS (q + 4) D S' → A 1 S') : X w mL_trades (xTG w (fun v S' => ∃ a, v = some (xi a) ∧ A a S') B) 2 12 185 [xp 30 0, xi (N : Int), xi (r : Int), xi (j : Int), xi (1 - C 10 j 0), xi (C 10 j 1), xl (mon C), xj, xj, xj, xj, xj, xj, xj] [] S := by
  obtain ⟨hV, g, hE, hper, h21, hz⟩ := id hL
  have hT2 : T ≤ 800000 := by omega
  have hN := hV.2.1
  have ht0 := hV.1.2.2.1
  obtain ⟨r1, r2, r3, r4, r5, r6, r7, r8, r9, r10, r11, r12, r13, r14, r15, r16, r17, r18, r19⟩ := row_f hV g hE hj
  have hO := hV.O hj
  unfold OQ at hO
  have hmr := mon_r hV hE
  have hs6 := hV.2.2.2.2.2.2
  unfold SQ at hs6
  refine xs_aload_0 eL_trades_185 ?_
  refine g_X9_0 eL_trades_186 lRL_10 ?_
  refine xs_iload_3 eL_trades_189 ?_
  refine xa_bipush eL_trades_190 (by decide) ?_
  refine xbi_W30 (mi' := mL_told) (y := yL_told) eL_trades_192 (xw_4 lRL_171 wy_L_told) rfl ⟨wd_L_told, by decide, by decide⟩ (Nat.le_of_ble_eq_true rfl) rfl (wt_9 hB hV hT2 hj ?_)
  refine xs_istore_8 eL_trades_195 rfl ?_
  refine xs_aload_0 eL_trades_197 ?_
  refine g_X9_0 eL_trades_198 lRL_10 ?_
  refine xa_bipush eL_trades_201 (by decide) ?_
  refine xbi_W20 (mi' := mL_count) (y := yL_count) eL_trades_203 (xw_4 lRL_146 wy_L_count) rfl ⟨wd_L_count, by decide, by decide⟩ (Nat.le_of_ble_eq_true rfl) rfl (wc_6 hB hV hT2 ?_)
  refine xs_istore_9 eL_trades_206 rfl ?_
  refine xs_aload_0 eL_trades_208 ?_
  refine g_X9_0 eL_trades_209 lRL_10 ?_
  refine xs_iload_3 eL_trades_212 ?_
  refine xs_iload_2 eL_trades_213 ?_
  refine xbi_W3 (mi' := mL_buy) (y := yL_buy) eL_trades_214 (xw_4 lRL_182 wy_L_buy) rfl ⟨wd_L_buy, by decide, by decide⟩ (Nat.le_of_ble_eq_true rfl) rfl ⟨by decide, by decide⟩ (w_buy hB hV hT2 hj hr (fun n1 S9 hB9 => ?_) (fun n3 S8 hB8 => ?_))
  · have n2 : canP j r S := by unfold canP at n1 ⊢; rw [e32, e08] at n1 ⊢; rw [hB.r hN hj, hB.p hr]; exact n1
    have n3 := n1
    unfold canP at n3
    rw [e32, e08] at n3
    have hL9 := (hB.L hL).sel (by omega) hj hr n2
    have hLS := hB.L hL
    obtain ⟨s1, s2, s3, s4, s5, s6, s7, s8⟩ := sel_all hLS.1 hLS.2.2.1 hj hr (o := (S 10 j 1).toNat) (by rw [hB.r hN hj]; omega) (by rw [hB.r hN hj]; omega) (by rw [hB.r hN hj]; omega) (by rw [hB.r hN hj, hB.p hr]; exact n3.2.2)
    rw [hB.mo] at s2
    have e5 : S 5 0 = C 5 0 := hB.at (by decide) (by decide) (by unfold sct; omega)
    rw [e5] at s5
    have e25 := hB.sal
    rw [e25, hB.r hN hj] at s6
    rw [hB.r hN hj] at s1 s2 s3 s4 s5 hB9 hL9
    have hm9 := mon_r hL9.1 s1
    generalize selS 0 j r (C 10 j 1).toNat S = D at s1 s2 s3 s4 s5 s6 hB9 hL9 hm9
    have hb25 := hs6.2.2 (8 * (C 10 j 1).toNat + r) (by omega)
    refine xs_istore_10 eL_trades_217 rfl ?_
    refine xs_iload_10 eL_trades_219 ?_
    refine xa_if_ge (tgt := 266) eL_trades_221 (by decide) (by omega) (fun c221 => ?_) (fun c221 => ?_)
    · refine xs_iload_10 eL_trades_266 ?_
      refine xs_iload_5 eL_trades_268 ?_
      refine xa_icmp_ne (tgt := 343) eL_trades_270 (by decide) (by omega) (by omega) (fun c270 => ?_) (fun c270 => ?_)
      · exfalso; omega
      · refine xs_aload_0 eL_trades_273 ?_
        refine g_X9_0 eL_trades_274 lRL_10 ?_
        refine xs_iload_3 eL_trades_277 ?_
        refine xa_iconst eL_trades_278 ?_
        refine xbi_W30 (mi' := mL_told) (y := yL_told) eL_trades_279 (xw_4 lRL_171 wy_L_told) rfl ⟨wd_L_told, by decide, by decide⟩ (Nat.le_of_ble_eq_true rfl) rfl (wt_1 hB9 hL9.1 (by omega) hj ?_)
        refine xs_iload_2 eL_trades_282 ?_
        refine xa_icmp_ne (tgt := 343) eL_trades_283 (by decide) (by omega) (by omega) (fun c283 => ?_) (fun c283 => ?_)
        · exfalso; omega
        · refine xs_aload_0 eL_trades_286 ?_
          refine g_X9_0 eL_trades_287 lRL_10 ?_
          refine xs_iload_3 eL_trades_290 ?_
          refine xa_bipush eL_trades_291 (by decide) ?_
          refine xbi_W30 (mi' := mL_told) (y := yL_told) eL_trades_293 (xw_4 lRL_171 wy_L_told) rfl ⟨wd_L_told, by decide, by decide⟩ (Nat.le_of_ble_eq_true rfl) rfl (wt_9 hB9 hL9.1 (by omega) hj ?_)
          refine xa_iconst eL_trades_296 ?_
          refine xa_icmp_ne (tgt := 343) eL_trades_297 (by decide) (by omega) (by decide) (fun c297 => ?_) (fun c297 => ?_)
          · exfalso; omega
          · refine xs_aload_0 eL_trades_300 ?_
            refine g_X9_0 eL_trades_301 lRL_10 ?_
            refine xa_bipush eL_trades_304 (by decide) ?_
            refine xbi_W20 (mi' := mL_count) (y := yL_count) eL_trades_306 (xw_4 lRL_146 wy_L_count) rfl ⟨wd_L_count, by decide, by decide⟩ (Nat.le_of_ble_eq_true rfl) rfl (wc_6 hB9 hL9.1 (by omega) ?_)
            refine xs_iload_9 eL_trades_309 ?_
            refine xa_iconst eL_trades_311 ?_
            refine xa_iadd eL_trades_312 ?_
            refine xa_icmp_ne (tgt := 343) eL_trades_313 (by decide) (by omega) (by omega) (fun c313 => ?_) (fun c313 => ?_)
            · exfalso; omega
            · refine xs_aload_0 eL_trades_316 ?_
              refine g_X9_0 eL_trades_317 lRL_10 ?_
              refine xs_iload_5 eL_trades_320 ?_
              refine xs_iload_2 eL_trades_322 ?_
              rw [show xi (C 10 j 1) = xi (((C 10 j 1).toNat : Nat) : Int) by rw [Int.toNat_of_nonneg (by omega)]]
              refine xbi_W30 (mi' := mL_sales) (y := yL_sales) eL_trades_323 (xw_4 lRL_184 wy_L_sales) rfl ⟨wd_L_sales, by decide, by decide⟩ (Nat.le_of_ble_eq_true rfl) rfl (w_sales hB9 hL9.1 (by omega) (p := (C 10 j 1).toNat) (r := r) (by omega) hr ?_)
              refine xa_if_le (tgt := 343) eL_trades_326 (by decide) (by omega) (fun c326 => ?_) (fun c326 => ?_)
              · exfalso; omega
              · refine xs_aload_0 eL_trades_329 ?_
                refine xbl_V00 (mi' := mL_money) (y := yL_money) eL_trades_330 (xw_5 lRL_177 wy_L_money) rfl ⟨wd_L_money, by decide, by decide⟩ (by decide) (fun _ => rfl) rfl (Nat.le_of_ble_eq_true rfl) rfl (k_money hB9 hL9.1 (by omega) ?_)
                refine xs_lload_6 eL_trades_333 ?_
                refine xa_lcmp eL_trades_335 hm9 hmr ?_
                refine xa_ifc_ne (tgt := 343) eL_trades_336 (by decide) (fun c336 => ?_) (fun c336 => ?_)
                · exfalso; omega
                · refine xa_iconst eL_trades_339 ?_
                  refine xa_goto (tgt := 344) eL_trades_340 (by decide) ?_
                  exact xa_zret eL_trades_344 rfl (by omega) ⟨_, rfl, (by first | exact hq _ _ _ (hL9.mono (by omega)) (hB9.mono (by omega)) | exact hq _ _ _ (hL.mono (by omega)) (hB8.mono (by omega)))⟩
    · exfalso; omega
  · refine xs_istore_10 eL_trades_217 rfl ?_
    refine xs_iload_10 eL_trades_219 ?_
    refine xa_if_ge (tgt := 266) eL_trades_221 (by decide) (by omega) (fun c221 => ?_) (fun c221 => ?_)
    · exfalso; omega
    · refine xs_iload_10 eL_trades_224 ?_
      refine xa_bipush eL_trades_226 (by decide) ?_
      refine xa_icmp_ne (tgt := 264) eL_trades_228 (by decide) (by omega) (by decide) (fun c228 => ?_) (fun c228 => ?_)
      · exfalso; omega
      · refine xs_aload_0 eL_trades_231 ?_
        refine g_X9_0 eL_trades_232 lRL_10 ?_
        refine xa_bipush eL_trades_235 (by decide) ?_
        refine xbi_W20 (mi' := mL_count) (y := yL_count) eL_trades_237 (xw_4 lRL_146 wy_L_count) rfl ⟨wd_L_count, by decide, by decide⟩ (Nat.le_of_ble_eq_true rfl) rfl (wc_6 hB8 hV hT2 ?_)
        refine xs_iload_9 eL_trades_240 ?_
        refine xa_icmp_ne (tgt := 264) eL_trades_242 (by decide) (by omega) (by omega) (fun c242 => ?_) (fun c242 => ?_)
        · exfalso; omega
        · refine xs_aload_0 eL_trades_245 ?_
          refine g_X9_0 eL_trades_246 lRL_10 ?_
          refine xs_iload_3 eL_trades_249 ?_
          refine xa_bipush eL_trades_250 (by decide) ?_
          refine xbi_W30 (mi' := mL_told) (y := yL_told) eL_trades_252 (xw_4 lRL_171 wy_L_told) rfl ⟨wd_L_told, by decide, by decide⟩ (Nat.le_of_ble_eq_true rfl) rfl (wt_9 hB8 hV hT2 hj ?_)
          refine xs_iload_8 eL_trades_255 ?_
          refine xa_icmp_ne (tgt := 264) eL_trades_257 (by decide) (by omega) (by omega) (fun c257 => ?_) (fun c257 => ?_)
          · exfalso; omega
          · refine xa_iconst eL_trades_260 ?_
            refine xa_goto (tgt := 265) eL_trades_261 (by decide) ?_
            exact xa_zret eL_trades_265 rfl (by omega) ⟨_, rfl, (by first | exact hq _ _ _ (hL9.mono (by omega)) (hB9.mono (by omega)) | exact hq _ _ _ (hL.mono (by omega)) (hB8.mono (by omega)))⟩
set_option maxHeartbeats 4000000 in
theorem t_chp {w : xW} {S C : xS} {B : String → xS → Prop} {A : Int → xS → Prop} {N j r : Nat} {T q : Int} (hB : BS q C S) (hL : LIN T N C) (hT : T ≤ 780000) (hw : w.2.2.2.2.2.1 < 1000) (hQ : q ≤ 950000) (hj : j < N) (hr : r < 4) (hq : ∀ D N' S', LIN (T + 3000) N' D → BS (q + 4) D S' → A 1 S') : X w mL_trades (xTG w (fun v S' => ∃ a, v = some (xi a) ∧ A a S') B) 2 12 345 [xp 30 0, xi (N : Int), xi (r : Int), xi (j : Int), xi (1 - C 10 j 0), xi (C 10 j 1), xl (mon C), xj, xj, xj, xj, xj, xj, xj] [] S := by
  obtain ⟨hV, g, hE, hper, h21, hz⟩ := id hL
  have hT2 : T ≤ 800000 := by omega
  have hN := hV.2.1
  have ht0 := hV.1.2.2.1
  obtain ⟨r1, r2, r3, r4, r5, r6, r7, r8, r9, r10, r11, r12, r13, r14, r15, r16, r17, r18, r19⟩ := row_f hV g hE hj
  have hO := hV.O hj
  unfold OQ at hO
  have hmr := mon_r hV hE
  have hs6 := hV.2.2.2.2.2.2
  unfold SQ at hs6
  refine xs_aload_0 eL_trades_345 ?_
  refine g_X9_0 eL_trades_346 lRL_10 ?_
  refine xa_bipush eL_trades_349 (by decide) ?_
  refine xbi_W20 (mi' := mL_count) (y := yL_count) eL_trades_351 (xw_4 lRL_146 wy_L_count) rfl ⟨wd_L_count, by decide, by decide⟩ (Nat.le_of_ble_eq_true rfl) rfl (wc_6 hB hV hT2 ?_)
  refine xs_istore_8 eL_trades_354 rfl ?_
  refine xs_aload_0 eL_trades_356 ?_
  refine g_X9_0 eL_trades_357 lRL_10 ?_
  refine xs_iload_2 eL_trades_360 ?_
  refine xbi_W20 (mi' := mL_buyCheapest) (y := yL_buyCheapest) eL_trades_361 (xw_4 lRL_186 wy_L_buyCheapest) rfl ⟨wd_L_buyCheapest, by decide, by decide⟩ (Nat.le_of_ble_eq_true rfl) rfl (w_buyCheapest hB hV hT2 hr (fun n0 S8 hB8 => ?_) (fun b n1 S9 hB9 => ?_))
  · refine xs_istore_9 eL_trades_364 rfl ?_
    refine xs_iload_9 eL_trades_366 ?_
    refine xa_iconst eL_trades_368 ?_
    refine xa_icmp_ne (tgt := 404) eL_trades_369 (by decide) (by omega) (by decide) (fun c369 => ?_) (fun c369 => ?_)
    · exfalso; omega
    · refine xs_aload_0 eL_trades_372 ?_
      refine g_X9_0 eL_trades_373 lRL_10 ?_
      refine xa_bipush eL_trades_376 (by decide) ?_
      refine xbi_W20 (mi' := mL_count) (y := yL_count) eL_trades_378 (xw_4 lRL_146 wy_L_count) rfl ⟨wd_L_count, by decide, by decide⟩ (Nat.le_of_ble_eq_true rfl) rfl (wc_6 hB8 hV hT2 ?_)
      refine xs_iload_8 eL_trades_381 ?_
      refine xa_icmp_ne (tgt := 400) eL_trades_383 (by decide) (by omega) (by omega) (fun c383 => ?_) (fun c383 => ?_)
      · exfalso; omega
      · refine xs_aload_0 eL_trades_386 ?_
        refine xbl_V00 (mi' := mL_money) (y := yL_money) eL_trades_387 (xw_5 lRL_177 wy_L_money) rfl ⟨wd_L_money, by decide, by decide⟩ (by decide) (fun _ => rfl) rfl (Nat.le_of_ble_eq_true rfl) rfl (k_money hB8 hV hT2 ?_)
        refine xs_lload_6 eL_trades_390 ?_
        refine xa_lcmp eL_trades_392 hmr hmr ?_
        refine xa_ifc_ne (tgt := 400) eL_trades_393 (by decide) (fun c393 => ?_) (fun c393 => ?_)
        · exfalso; omega
        · refine xa_iconst eL_trades_396 ?_
          refine xa_goto (tgt := 459) eL_trades_397 (by decide) ?_
          exact xa_zret eL_trades_459 rfl (by omega) ⟨_, rfl, (by first | exact hq _ _ _ (hL9.mono (by omega)) (hB9.mono (by omega)) | exact hq _ _ _ (hL.mono (by omega)) (hB8.mono (by omega)))⟩
  · have hlt := chpS_lt n1
    rw [e32, e08] at hlt
    obtain ⟨hb, n4, n5, n6⟩ := hlt
    have n2 : canP b r S := by unfold canP; rw [e32, e08]; exact ⟨n4, n5, n6⟩
    have hLS := hB.L hL
    have hL9 := hLS.sel (by omega) hb hr n2
    have hOb := hLS.1.O hb
    unfold OQ at hOb
    obtain ⟨s1, s2, s3, s4, s5, s6, s7, s8⟩ := sel_all hLS.1 hLS.2.2.1 hb hr (o := (S 10 b 1).toNat) (by omega) (by omega) (by omega) n6
    rw [hB.mo] at s2
    have e5 : S 5 0 = C 5 0 := hB.at (by decide) (by decide) (by unfold sct; omega)
    rw [e5] at s5
    have e25 := hB.sal
    have hm9 := mon_r hL9.1 s1
    have hb25 := hs6.2.2 (8 * (S 10 b 1).toNat + r) (by omega)
    rw [e25] at s6
    have ho25 : 8 * (S 10 b 1).toNat + r < 64 := by omega
    generalize 8 * (S 10 b 1).toNat + r = z25 at s6 hb25 ho25
    generalize selS 0 b r (S 10 b 1).toNat S = D at s1 s2 s3 s4 s5 s6 hB9 hL9 hm9
    refine xs_istore_9 eL_trades_364 rfl ?_
    refine xs_iload_9 eL_trades_366 ?_
    refine xa_iconst eL_trades_368 ?_
    refine xa_icmp_ne (tgt := 404) eL_trades_369 (by decide) (by omega) (by decide) (fun c369 => ?_) (fun c369 => ?_)
    · refine xs_aload_0 eL_trades_404 ?_
      refine g_X9_0 eL_trades_405 lRL_10 ?_
      refine xs_iload_9 eL_trades_408 ?_
      refine xa_iconst eL_trades_410 ?_
      refine xbi_W30 (mi' := mL_told) (y := yL_told) eL_trades_411 (xw_4 lRL_171 wy_L_told) rfl ⟨wd_L_told, by decide, by decide⟩ (Nat.le_of_ble_eq_true rfl) rfl (wt_1 hB9 hL9.1 (by omega) hb ?_)
      refine xs_iload_2 eL_trades_414 ?_
      refine xa_icmp_ne (tgt := 458) eL_trades_415 (by decide) (by omega) (by omega) (fun c415 => ?_) (fun c415 => ?_)
      · exfalso; omega
      · refine xs_aload_0 eL_trades_418 ?_
        refine g_X9_0 eL_trades_419 lRL_10 ?_
        refine xa_bipush eL_trades_422 (by decide) ?_
        refine xbi_W20 (mi' := mL_count) (y := yL_count) eL_trades_424 (xw_4 lRL_146 wy_L_count) rfl ⟨wd_L_count, by decide, by decide⟩ (Nat.le_of_ble_eq_true rfl) rfl (wc_6 hB9 hL9.1 (by omega) ?_)
        refine xs_iload_8 eL_trades_427 ?_
        refine xa_iconst eL_trades_429 ?_
        refine xa_iadd eL_trades_430 ?_
        refine xa_icmp_ne (tgt := 458) eL_trades_431 (by decide) (by omega) (by omega) (fun c431 => ?_) (fun c431 => ?_)
        · exfalso; omega
        · refine xs_aload_0 eL_trades_434 ?_
          refine xbl_V00 (mi' := mL_money) (y := yL_money) eL_trades_435 (xw_5 lRL_177 wy_L_money) rfl ⟨wd_L_money, by decide, by decide⟩ (by decide) (fun _ => rfl) rfl (Nat.le_of_ble_eq_true rfl) rfl (k_money hB9 hL9.1 (by omega) ?_)
          refine xs_lload_6 eL_trades_438 ?_
          refine xa_lcmp eL_trades_440 hm9 hmr ?_
          refine xa_ifc_ne (tgt := 458) eL_trades_441 (by decide) (fun c441 => ?_) (fun c441 => ?_)
          · exfalso; omega
          · refine xs_aload_0 eL_trades_444 ?_
            refine g_X9_0 eL_trades_445 lRL_10 ?_
            refine xbi_V00 (mi' := mX7_partners) (y := yX7_partners) eL_trades_448 (xw_5 lRL_188 wy_X7_partners) rfl ⟨wd_X7_partners, by decide, by decide⟩ (by decide) (fun _ => rfl) rfl (Nat.le_of_ble_eq_true rfl) rfl (F_partners (hB9.V hL9.1) (by omega) (fun S7 _ s7 => ?_))
            have hpar := par_pos (n := 4) (N := N) (S := S9) ho25 (by rw [hB9.sal, s6]; omega)
            replace hB9 := hB9.sc s7
            refine xa_if_le (tgt := 458) eL_trades_451 (by decide) (by omega) (fun c451 => ?_) (fun c451 => ?_)
            · exfalso; omega
            · refine xa_iconst eL_trades_454 ?_
              refine xa_goto (tgt := 459) eL_trades_455 (by decide) ?_
              exact xa_zret eL_trades_459 rfl (by omega) ⟨_, rfl, (by first | exact hq _ _ _ (hL9.mono (by omega)) (hB9.mono (by omega)) | exact hq _ _ _ (hL.mono (by omega)) (hB8.mono (by omega)))⟩
    · exfalso; omega
set_option maxHeartbeats 4000000 in
theorem t_lea {w : xW} {S C : xS} {B : String → xS → Prop} {A : Int → xS → Prop} {N j r : Nat} {T q : Int} (hB : BS q C S) (hL : LIN T N C) (hT : T ≤ 780000) (hw : w.2.2.2.2.2.1 < 1000) (hQ : q ≤ 950000) (hj : j < N) (hr : r < 4) (hq : ∀ D N' S', LIN (T + 3000) N' D → BS (q + 4) D S' → A 1 S') : X w mL_trades (xTG w (fun v S' => ∃ a, v = some (xi a) ∧ A a S') B) 2 12 460 [xp 30 0, xi (N : Int), xi (r : Int), xi (j : Int), xi (1 - C 10 j 0), xi (C 10 j 1), xl (mon C), xj, xj, xj, xj, xj, xj, xj] [] S := by
  obtain ⟨hV, g, hE, hper, h21, hz⟩ := id hL
  have hT2 : T ≤ 800000 := by omega
  have hN := hV.2.1
  have ht0 := hV.1.2.2.1
  obtain ⟨r1, r2, r3, r4, r5, r6, r7, r8, r9, r10, r11, r12, r13, r14, r15, r16, r17, r18, r19⟩ := row_f hV g hE hj
  have hO := hV.O hj
  unfold OQ at hO
  have hmr := mon_r hV hE
  have hs6 := hV.2.2.2.2.2.2
  unfold SQ at hs6
  refine xa_iconst eL_trades_460 ?_
  refine xs_aload_0 eL_trades_461 ?_
  refine xa_iconst eL_trades_462 ?_
  refine xbi_V10 (mi' := mL_draw) (y := yL_draw) eL_trades_463 (xw_5 lRL_152 wy_L_draw) rfl ⟨wd_L_draw, by decide, by decide⟩ (by decide) (fun _ => rfl) rfl (Nat.le_of_ble_eq_true rfl) rfl (k_draw hw hB (by omega) (by decide) (fun d8 S1 l8 hB1 => ?_))
  refine xa_iadd eL_trades_466 ?_
  refine xs_istore_8 eL_trades_467 rfl ?_
  refine xs_aload_0 eL_trades_469 ?_
  refine xa_bipush eL_trades_470 (by decide) ?_
  refine xbi_V10 (mi' := mL_draw) (y := yL_draw) eL_trades_472 (xw_5 lRL_152 wy_L_draw) rfl ⟨wd_L_draw, by decide, by decide⟩ (by decide) (fun _ => rfl) rfl (Nat.le_of_ble_eq_true rfl) rfl (k_draw hw hB1 (by omega) (by decide) (fun d9 S2 l9 hB2 => ?_))
  refine xs_istore_9 eL_trades_475 rfl ?_
  obtain ⟨J, hJ⟩ : ∃ J, J = 1 + (d8 : Int) := ⟨_, rfl⟩
  rw [← hJ]
  have hk : (1 ≤ J ∧ J ≤ 50) ∧ 0 ≤ (d9 : Int) ∧ (d9 : Int) ≤ 999 := by omega
  have hz0 : 0 ≤ J * (d9 : Int) := Int.mul_nonneg (by omega) (by omega)
  have hz1 : J * (d9 : Int) ≤ 5 * (d9 : Int) := Int.mul_le_mul_of_nonneg_right (by omega) (by omega)
  refine xs_aload_0 eL_trades_477 ?_
  refine g_X9_0 eL_trades_478 lRL_10 ?_
  refine xs_iload_3 eL_trades_481 ?_
  refine xs_iload_2 eL_trades_482 ?_
  refine xs_iload_8 eL_trades_483 ?_
  refine xs_iload_9 eL_trades_485 ?_
  refine xbi_W5 (mi' := mL_lease) (y := yL_lease) eL_trades_487 (xw_4 lRL_192 wy_L_lease) rfl ⟨wd_L_lease, by decide, by decide⟩ (Nat.le_of_ble_eq_true rfl) rfl ⟨by decide, by decide⟩ (w_lease hB2 hV hT2 hj hr hk (fun n1 S9 hB9 => ?_) (fun n3 S8 hB8 => ?_))
  · have n2 : leaP j r (J * (d9 : Int)) S2 := by unfold leaP at n1 ⊢; rw [e32, e08] at n1 ⊢; rw [hB2.r hN hj, hB2.p hr]; exact n1
    have n3 := n1
    unfold leaP at n3
    rw [e32, e08] at n3
    obtain ⟨hL9, s2, s3, s4⟩ := (hB2.L hL).lea (by omega) hj hr hk n2
    rw [hB2.mo] at s2
    have hm9 := mon_r hL9.1 hL9.2.2.1
    generalize leaS j r (S2 10 j 1).toNat J (J * (d9 : Int)) S2 = D at s2 s3 s4 hB9 hL9 hm9
    refine xs_istore_10 eL_trades_490 rfl ?_
    refine xs_iload_10 eL_trades_492 ?_
    refine xa_if_ge (tgt := 512) eL_trades_494 (by decide) (by omega) (fun c494 => ?_) (fun c494 => ?_)
    · refine xs_iload_10 eL_trades_512 ?_
      refine xs_iload_8 eL_trades_514 ?_
      refine xs_iload_9 eL_trades_516 ?_
      refine xa_imul eL_trades_518 ?_
      refine xa_icmp_ne (tgt := 571) eL_trades_519 (by decide) (by omega) (by omega) (fun c519 => ?_) (fun c519 => ?_)
      · exfalso; omega
      · refine xs_aload_0 eL_trades_522 ?_
        refine g_X9_0 eL_trades_523 lRL_10 ?_
        refine xs_iload_3 eL_trades_526 ?_
        refine xa_bipush eL_trades_527 (by decide) ?_
        refine xbi_W30 (mi' := mL_told) (y := yL_told) eL_trades_529 (xw_4 lRL_171 wy_L_told) rfl ⟨wd_L_told, by decide, by decide⟩ (Nat.le_of_ble_eq_true rfl) rfl (wt_10 hB9 hL9.1 (by omega) hj ?_)
        refine xs_iload_2 eL_trades_532 ?_
        refine xa_icmp_ne (tgt := 571) eL_trades_533 (by decide) (by omega) (by omega) (fun c533 => ?_) (fun c533 => ?_)
        · exfalso; omega
        · refine xs_aload_0 eL_trades_536 ?_
          refine g_X9_0 eL_trades_537 lRL_10 ?_
          refine xs_iload_3 eL_trades_540 ?_
          refine xa_bipush eL_trades_541 (by decide) ?_
          refine xbi_W30 (mi' := mL_told) (y := yL_told) eL_trades_543 (xw_4 lRL_171 wy_L_told) rfl ⟨wd_L_told, by decide, by decide⟩ (Nat.le_of_ble_eq_true rfl) rfl (wt_11 hB9 hL9.1 (by omega) hj ?_)
          refine xs_iload_8 eL_trades_546 ?_
          refine xa_icmp_ne (tgt := 571) eL_trades_548 (by decide) (by omega) (by omega) (fun c548 => ?_) (fun c548 => ?_)
          · exfalso; omega
          · refine xs_aload_0 eL_trades_551 ?_
            refine xbl_V00 (mi' := mL_money) (y := yL_money) eL_trades_552 (xw_5 lRL_177 wy_L_money) rfl ⟨wd_L_money, by decide, by decide⟩ (by decide) (fun _ => rfl) rfl (Nat.le_of_ble_eq_true rfl) rfl (k_money hB9 hL9.1 (by omega) ?_)
            refine xs_lload_6 eL_trades_555 ?_
            refine xa_lcmp eL_trades_557 hm9 hmr ?_
            refine xa_ifc_ne (tgt := 571) eL_trades_558 (by decide) (fun c558 => ?_) (fun c558 => ?_)
            · exfalso; omega
            · refine xs_iload_2 eL_trades_561 ?_
              refine xs_iload_5 eL_trades_562 ?_
              refine xa_icmp_eq (tgt := 571) eL_trades_564 (by decide) (by omega) (by omega) (fun c564 => ?_) (fun c564 => ?_)
              · exfalso; omega
              · refine xa_iconst eL_trades_567 ?_
                refine xa_goto (tgt := 572) eL_trades_568 (by decide) ?_
                exact xa_zret eL_trades_572 rfl (by omega) ⟨_, rfl, (by first | exact hq _ _ _ (hL9.mono (by omega)) (hB9.mono (by omega)) | exact hq _ _ _ (hL.mono (by omega)) (hB8.mono (by omega)))⟩
    · exfalso; omega
  · refine xs_istore_10 eL_trades_490 rfl ?_
    refine xs_iload_10 eL_trades_492 ?_
    refine xa_if_ge (tgt := 512) eL_trades_494 (by decide) (by omega) (fun c494 => ?_) (fun c494 => ?_)
    · exfalso; omega
    · refine xs_iload_10 eL_trades_497 ?_
      refine xa_bipush eL_trades_499 (by decide) ?_
      refine xa_icmp_ne (tgt := 508) eL_trades_501 (by decide) (by omega) (by decide) (fun c501 => ?_) (fun c501 => ?_)
      · exfalso; omega
      · refine xa_iconst eL_trades_504 ?_
        refine xa_goto (tgt := 572) eL_trades_505 (by decide) ?_
        exact xa_zret eL_trades_572 rfl (by omega) ⟨_, rfl, (by first | exact hq _ _ _ (hL9.mono (by omega)) (hB9.mono (by omega)) | exact hq _ _ _ (hL.mono (by omega)) (hB8.mono (by omega)))⟩
