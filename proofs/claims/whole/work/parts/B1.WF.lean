/-! the law: texts grow and shrink -/
/-- a longer text in both -/
theorem INV.txt {T : Int} {n N c c2 : Nat} {S D : xS} (h : INV T n N c S) (e : ∀ x, x ≠ 30 → x ≠ 42 → x ≠ 3 → x ≠ 24 → x ≠ 41 → D x = S x) (hT : TXI c2 D) : INV T n N c2 D := by
  obtain ⟨hv, hf, hr, -, hs⟩ := h
  refine ⟨hv.cls (fun x y q => by rw [e x (by omega) (by omega) (by omega) (by omega) (by omega)]), hf.of3 (fun a ha => e a (by omega) (by omega) (by omega) (by omega) (by omega)), ?_, hT, hs.step (by omega) (fun x y q => by rw [e x (by omega) (by omega) (by omega) (by omega) (by omega)])⟩
  rw [e 31 (by decide) (by decide) (by decide) (by decide) (by decide)]
  exact hr.cls hv.2.2.1 hv.2.1 (fun x y q => by rw [e x (by omega) (by omega) (by omega) (by omega) (by omega)])
set_option maxHeartbeats 400000 in
theorem w_truncateText {w : xW} {S : xS} {B : String → xS → Prop} {A : Int → xS → Prop} {a : Int} (ya : xr a) (q1 : 0 ≤ a ∧ a ≤ S 3 0 1 → A 0 (up (up S 3 0 1 a) 42 0 0 (wr a))) (q0 : ¬ (0 ≤ a ∧ a ≤ S 3 0 1) → A 1 S) : Ki w mL_truncateText yL_truncateText 1 6 [xp 0 0, xi a, xp 42 0] S A B := by
  refine K.ofH rfl rfl rfl rfl (Nat.le_of_ble_eq_true rfl) rfl ?_
  refine xs_aload_2 eL_truncateText_0 ?_
  refine xa_iconst eL_truncateText_1 ?_
  refine xs_aload_0 eL_truncateText_2 ?_
  refine xs_iload_1 eL_truncateText_3 ?_
  refine xbi_V1 (mi' := mX7_truncateText) (y := yX7_truncateText) eL_truncateText_4 (xw_5 lRL_103 wy_X7_truncateText) rfl ⟨wd_X7_truncateText, by decide, by decide⟩ (by decide) (fun _ => rfl) rfl (Nat.le_of_ble_eq_true rfl) rfl ⟨by decide, by decide⟩ (F_truncateText ya (fun c9 => ?_) (fun c9 => ?_))
  · refine xa_i2lw eL_truncateText_7 ?_
    refine pa_42 eL_truncateText_8 (by decide) (wr_64 _) ?_
    refine xa_goto (tgt := 15) eL_truncateText_9 (by decide) ?_
    refine xa_iconst eL_truncateText_15 ?_
    exact xa_iret eL_truncateText_16 rfl ⟨_, rfl, q1 c9⟩
  · refine xt_c0 rfl rfl (by decide) (xtb_in (i := 713) (by decide +kernel) (by decide +kernel)) (List.mem_of_getElem? (i := 1) rfl) (fun q => ?_)
    refine xs_astoree_3 eL_truncateText_12 rfl ?_
    refine xa_iconst eL_truncateText_13 ?_
    exact xa_iret eL_truncateText_14 rfl ⟨_, rfl, q0 c9⟩
set_option maxHeartbeats 400000 in
theorem c_truncateText {w : xW} {TG : xT} {k n nn N c : Nat} {i T : Int} {l5 l6 l7 l8 : xV} {S : xS} (h : INV T nn N c S) (hT : 0 ≤ T ∧ T ≤ 790000) (hi : 0 ≤ i ∧ i + 4 < (w.2.2.2.2.2.1 : Int)) (hN : w.2.2.2.2.2.1 < 2147483648) (hk : ∀ (n' N' c' : Nat) (S' : xS) (l5 l6 l7 l8 : xV), INV (T + 1500) n' N' c' S' → X w mL_law TG k n 2358 [xp 52 0, xp 0 0, xp 30 0, xp 42 0, xi i, l5, l6, l7, l8] [] S') : X w mL_law TG (k + 1) (n + 6) 2191 [xp 52 0, xp 0 0, xp 30 0, xp 42 0, xi i, l5, l6, l7, l8] [] S := by
  have ya := xs_r (w.2.2.2.2.2.2 (i + 1).toNat)
  obtain ⟨⟨t1, t2, t3, t4⟩, t5, t6, t7⟩ := h.2.2.2.1
  refine xs_aload_1 eL_law_2191 ?_
  refine xs_aload_0 eL_law_2192 ?_
  refine xs_iload_4 eL_law_2193 ?_
  refine xa_iconst eL_law_2195 ?_
  refine xa_iadd eL_law_2196 ?_
  refine xa_sld eL_law_2197 (by omega) hN ?_
  refine xs_aload_3 eL_law_2198 ?_
  refine xbi_H3 (mi' := mL_truncateText) (y := yL_truncateText) (k1 := 1) (n1 := 6) eL_law_2199 (zw_4 (xtb_in (i := 1083) (by decide +kernel) (by decide +kernel)) wy_L_truncateText.1 li_RL wy_L_truncateText.2.2) rfl ⟨wd_L_truncateText, by decide, by decide⟩ (by omega) (w_truncateText ya (fun c9 => ?_) (fun c9 => ?_))
  · generalize hV : (w.2.2.2.2.2.2 (i + 1).toNat).toInt = av at ya c9 ⊢
    have e14 : up (up S 3 0 1 av) 42 0 0 (wr av) 30 0 14 = (c : Int) := by rw [up_k (by decide), up_k (by decide)]; exact t1
    have et := hV
    refine xs_istore_5 eL_law_2202 rfl ?_
    refine xs_aload_2 eL_law_2204 ?_
    refine xs_aload_0 eL_law_2205 ?_
    refine xs_iload_4 eL_law_2206 ?_
    refine xa_iconst eL_law_2208 ?_
    refine xa_iadd eL_law_2209 ?_
    refine xa_sld eL_law_2210 (by omega) hN ?_
    refine xbi_V10 (mi' := mX8_truncateText) (y := yX8_truncateText) eL_law_2211 (xw_5 (xtb_in (i := 1522) (by decide +kernel) (by decide +kernel)) wy_X8_truncateText) rfl ⟨wd_X8_truncateText, by decide, by decide⟩ (by decide) (fun _ => rfl) rfl (Nat.le_of_ble_eq_true rfl) rfl (G_truncateText (by rw [hV]; exact ya) (by rw [e14]; omega) (fun c8 => ?_) (fun c8 => ?_))
    · rw [hV]
      refine xs_istore_6 eL_law_2214 rfl ?_
      refine xs_aload_2 eL_law_2216 ?_
      refine xbi_V00 (mi' := mX8_thrown) (y := yX8_thrown) eL_law_2217 (xw_5 (xtb_in (i := 1188) (by decide +kernel) (by decide +kernel)) wy_X8_thrown) rfl ⟨wd_X8_thrown, by decide, by decide⟩ (by decide) (fun _ => rfl) rfl (Nat.le_of_ble_eq_true rfl) rfl (k_X8_thrown ?_)
      rw [show up (up (up (up S 3 0 1 av) 42 0 0 (wr av)) 30 0 4 0) 30 0 14 av 30 0 4 = (0 : Int) from by rw [up_f (by decide), up_same]]
      refine xs_iload_5 eL_law_2220 ?_
      refine xa_icmp_eq (tgt := 2227) eL_law_2222 (by decide) (by decide) (by decide) (fun c2222 => ?_) (fun c2222 => ?_)
      · refine xs_iload_5 eL_law_2227 ?_
        refine xa_if_ne (tgt := 2244) eL_law_2229 (by decide) (by decide) (fun c2229 => ?_) (fun c2229 => ?_)
        · exact absurd rfl c2229
        · refine xs_aload_3 eL_law_2232 ?_
          refine xa_iconst eL_law_2233 ?_
          refine gar_42 eL_law_2234 (by decide) (fun r9 => ?_)
          refine xs_iload_6 eL_law_2235 ?_
          refine xa_i2lw eL_law_2237 ?_
          refine xa_lcmp eL_law_2238 r9 (wr_64 _) ?_
          refine xa_ifc_eq (tgt := 2244) eL_law_2239 (by decide) (fun c2239 => ?_) (fun c2239 => ?_)
          · refine xa_goto (tgt := 2358) eL_law_2244 (by decide) ?_
            have ec : ((av.toNat : Nat) : Int) = av := by omega
            refine X_room (hk _ _ av.toNat _ _ _ _ _ ((h.mono (by omega)).txt (fun x a1 a2 a3 a4 a5 => by funext y; rw [up_oth (by omega), up_oth (by omega), up_oth (by omega), up_oth (by omega)]) ⟨⟨?_, ?_, by omega, fun j hj => ?_⟩, ?_, ?_, ?_⟩)) ⟨by omega, by omega⟩
            · rw [up_same, ec]
            · rw [up_k (by decide), up_k (by decide), up_k (by decide), up_same, ec]
            · have z := t4 j (by omega)
              rw [up_k (by decide), up_k (by decide), up_k (by decide), up_k (by decide), up_k (by decide), up_k (by decide), up_k (by decide), up_k (by decide)]
              exact z
            · rw [up_f (by decide), up_f (by decide), up_k (by decide), up_k (by decide), up_k (by decide), up_k (by decide), up_k (by decide), up_f (by decide)]; exact t5
            · rw [up_f (by decide), up_f (by decide), up_k (by decide), up_k (by decide), up_k (by decide), up_k (by decide), up_k (by decide), up_f (by decide)]; exact t6
            · rw [up_k (by decide), up_k (by decide), up_k (by decide), up_f (by decide)]; exact t7
          · exact absurd (by show up (up (up (up S 3 0 1 av) 42 0 0 (wr av)) 30 0 4 0) 30 0 14 av 42 0 0 = wr av; rw [up_k (by decide), up_k (by decide), up_same]) c2239
      · exact absurd rfl c2222
    · exact absurd (by rw [hV, e14]; omega) c8
  · refine xs_istore_5 eL_law_2202 rfl ?_
    refine xs_aload_2 eL_law_2204 ?_
    refine xs_aload_0 eL_law_2205 ?_
    refine xs_iload_4 eL_law_2206 ?_
    refine xa_iconst eL_law_2208 ?_
    refine xa_iadd eL_law_2209 ?_
    refine xa_sld eL_law_2210 (by omega) hN ?_
    refine xbi_V10 (mi' := mX8_truncateText) (y := yX8_truncateText) eL_law_2211 (xw_5 (xtb_in (i := 1522) (by decide +kernel) (by decide +kernel)) wy_X8_truncateText) rfl ⟨wd_X8_truncateText, by decide, by decide⟩ (by decide) (fun _ => rfl) rfl (Nat.le_of_ble_eq_true rfl) rfl (G_truncateText ya (by rw [t1]; omega) (fun c8 => ?_) (fun c8 => ?_))
    · exact absurd (by rw [t1] at c8; rw [t2]; exact c8) c9
    · refine xs_istore_6 eL_law_2214 rfl ?_
      refine xs_aload_2 eL_law_2216 ?_
      refine xbi_V00 (mi' := mX8_thrown) (y := yX8_thrown) eL_law_2217 (xw_5 (xtb_in (i := 1188) (by decide +kernel) (by decide +kernel)) wy_X8_thrown) rfl ⟨wd_X8_thrown, by decide, by decide⟩ (by decide) (fun _ => rfl) rfl (Nat.le_of_ble_eq_true rfl) rfl (k_X8_thrown ?_)
      rw [show up (up S 30 0 4 0) 30 0 4 1 30 0 4 = (1 : Int) from up_same _ _ _ _ _]
      refine xs_iload_5 eL_law_2220 ?_
      refine xa_icmp_eq (tgt := 2227) eL_law_2222 (by decide) (by decide) (by decide) (fun c2222 => ?_) (fun c2222 => ?_)
      · refine xs_iload_5 eL_law_2227 ?_
        refine xa_if_ne (tgt := 2244) eL_law_2229 (by decide) (by decide) (fun c2229 => ?_) (fun c2229 => ?_)
        · refine xa_goto (tgt := 2358) eL_law_2244 (by decide) ?_
          exact X_room (hk _ _ _ _ _ _ _ _ ((h.mono (by omega)).eq (fun x a1 a2 => by funext y; rw [up_oth (by omega), up_oth (by omega)]) (fun g hg => by rw [up_f (by omega), up_f (by omega)]))) ⟨by omega, by omega⟩
        · exact absurd c2229 (by decide)
      · exact absurd rfl c2222
set_option maxHeartbeats 400000 in
theorem w_appendText {w : xW} {S : xS} {B : String → xS → Prop} {A : Int → xS → Prop} {a : Int} {n : Nat} (ya : xr a) (hn : S 3 0 1 = (n : Int)) (h7 : n ≤ 700) (q1 : n ≤ 696 → A 0 (up (apS n a S) 42 0 0 (wr ((n : Int) + 4)))) (q0 : ¬ n ≤ 696 → A 1 S) : Ki w mL_appendText yL_appendText 1 6 [xp 0 0, xi a, xp 42 0] S A B := by
  refine K.ofH rfl rfl rfl rfl (Nat.le_of_ble_eq_true rfl) rfl ?_
  refine xs_aload_2 eL_appendText_0 ?_
  refine xa_iconst eL_appendText_1 ?_
  refine xs_aload_0 eL_appendText_2 ?_
  refine xs_iload_1 eL_appendText_3 ?_
  refine xbi_V1 (mi' := mX7_appendText) (y := yX7_appendText) eL_appendText_4 (xw_5 lRL_100 wy_X7_appendText) rfl ⟨wd_X7_appendText, by decide, by decide⟩ (by decide) (fun _ => rfl) rfl (Nat.le_of_ble_eq_true rfl) rfl ⟨by decide, by decide⟩ (F_appendText ya hn h7 (fun c9 => ?_) (fun c9 => ?_))
  · refine xa_i2lw eL_appendText_7 ?_
    refine pa_42 eL_appendText_8 (by decide) (wr_64 _) ?_
    refine xa_goto (tgt := 15) eL_appendText_9 (by decide) ?_
    refine xa_iconst eL_appendText_15 ?_
    exact xa_iret eL_appendText_16 rfl ⟨_, rfl, q1 c9⟩
  · refine xt_c0 rfl rfl (by decide) (xtb_in (i := 714) (by decide +kernel) (by decide +kernel)) (List.mem_of_getElem? (i := 2) rfl) (fun q => ?_)
    refine xs_astoree_3 eL_appendText_12 rfl ?_
    refine xa_iconst eL_appendText_13 ?_
    exact xa_iret eL_appendText_14 rfl ⟨_, rfl, q0 c9⟩
theorem apS_o {n : Nat} {a : Int} {S : xS} {x : Nat} (h1 : x ≠ 3) (h2 : x ≠ 24) : apS n a S x = S x := by funext y f; unfold apS; rw [if_neg (by omega), if_neg (by omega)]
theorem apS_3 {n : Nat} {a : Int} {S : xS} {f : Nat} (h : f ≠ 1) : apS n a S 3 0 f = S 3 0 f := by unfold apS; rw [if_neg (by omega), if_neg (by omega)]
theorem apR_o {n : Nat} {a : Int} {S : xS} {x : Nat} (h1 : x ≠ 30) (h2 : x ≠ 41) : apR n a S x = S x := by funext y f; unfold apR; rw [if_neg (by omega), if_neg (by omega), if_neg (by omega)]
theorem apR_30 {n : Nat} {a : Int} {S : xS} {f : Nat} (h : f ≠ 14) (h4 : f ≠ 4) : apR n a S 30 0 f = S 30 0 f := by unfold apR; rw [if_neg (by omega), if_neg (by omega), if_neg (by omega)]
set_option maxHeartbeats 400000 in
theorem c_appendText {w : xW} {TG : xT} {k n nn N c : Nat} {i T : Int} {l5 l6 l7 l8 : xV} {S : xS} (h : INV T nn N c S) (hT : 0 ≤ T ∧ T ≤ 790000) (hi : 0 ≤ i ∧ i + 4 < (w.2.2.2.2.2.1 : Int)) (hN : w.2.2.2.2.2.1 < 2147483648) (hk : ∀ (n' N' c' : Nat) (S' : xS) (l5 l6 l7 l8 : xV), INV (T + 1500) n' N' c' S' → X w mL_law TG k n 2358 [xp 52 0, xp 0 0, xp 30 0, xp 42 0, xi i, l5, l6, l7, l8] [] S') : X w mL_law TG (k + 1) (n + 6) 2135 [xp 52 0, xp 0 0, xp 30 0, xp 42 0, xi i, l5, l6, l7, l8] [] S := by
  have ya := xs_r (w.2.2.2.2.2.2 (i + 1).toNat)
  obtain ⟨⟨t1, t2, t3, t4⟩, t5, t6, t7⟩ := h.2.2.2.1
  refine xs_aload_1 eL_law_2135 ?_
  refine xs_aload_0 eL_law_2136 ?_
  refine xs_iload_4 eL_law_2137 ?_
  refine xa_iconst eL_law_2139 ?_
  refine xa_iadd eL_law_2140 ?_
  refine xa_sld eL_law_2141 (by omega) hN ?_
  refine xs_aload_3 eL_law_2142 ?_
  refine xbi_H3 (mi' := mL_appendText) (y := yL_appendText) (k1 := 1) (n1 := 6) eL_law_2143 (zw_4 (xtb_in (i := 1072) (by decide +kernel) (by decide +kernel)) wy_L_appendText.1 li_RL wy_L_appendText.2.2) rfl ⟨wd_L_appendText, by decide, by decide⟩ (by omega) (w_appendText (n := c) ya t2 t3 (fun c9 => ?_) (fun c9 => ?_))
  · generalize hV : (w.2.2.2.2.2.2 (i + 1).toNat).toInt = av at ya ⊢
    have e14 : (up (apS c av S) 42 0 0 (wr ((c : Int) + 4))) 30 0 14 = (c : Int) := by rw [up_k (by decide), apS_o (by decide) (by decide)]; exact t1
    have e41 : (up (apS c av S) 42 0 0 (wr ((c : Int) + 4))) 41 0 = S 41 0 := by rw [up_oth (by decide), apS_o (by decide) (by decide)]
    refine xs_istore_5 eL_law_2146 rfl ?_
    refine xs_aload_2 eL_law_2148 ?_
    refine xs_aload_0 eL_law_2149 ?_
    refine xs_iload_4 eL_law_2150 ?_
    refine xa_iconst eL_law_2152 ?_
    refine xa_iadd eL_law_2153 ?_
    refine xa_sld eL_law_2154 (by omega) hN ?_
    refine xbi_V10 (mi' := mX8_appendText) (y := yX8_appendText) eL_law_2155 (xw_5 (xtb_in (i := 1518) (by decide +kernel) (by decide +kernel)) wy_X8_appendText) rfl ⟨wd_X8_appendText, by decide, by decide⟩ (by decide) (fun _ => rfl) rfl (Nat.le_of_ble_eq_true rfl) rfl (G_appendText (n := c) (by rw [hV]; exact ya) e14 t3 (fun c8 => ?_) (fun c8 => ?_))
    · rw [hV]
      refine xs_istore_6 eL_law_2158 rfl ?_
      refine xs_aload_2 eL_law_2160 ?_
      refine xbi_V00 (mi' := mX8_thrown) (y := yX8_thrown) eL_law_2161 (xw_5 (xtb_in (i := 1188) (by decide +kernel) (by decide +kernel)) wy_X8_thrown) rfl ⟨wd_X8_thrown, by decide, by decide⟩ (by decide) (fun _ => rfl) rfl (Nat.le_of_ble_eq_true rfl) rfl (k_X8_thrown ?_)
      rw [show apR c av (up (apS c av S) 42 0 0 (wr ((c : Int) + 4))) 30 0 4 = (0 : Int) from rfl]
      refine xs_iload_5 eL_law_2164 ?_
      refine xa_icmp_eq (tgt := 2171) eL_law_2166 (by decide) (by decide) (by decide) (fun c2166 => ?_) (fun c2166 => ?_)
      · refine xs_iload_5 eL_law_2171 ?_
        refine xa_if_ne (tgt := 2188) eL_law_2173 (by decide) (by decide) (fun c2173 => ?_) (fun c2173 => ?_)
        · exact absurd rfl c2173
        · refine xs_aload_3 eL_law_2176 ?_
          refine xa_iconst eL_law_2177 ?_
          refine gar_42 eL_law_2178 (by decide) (fun r9 => ?_)
          refine xs_iload_6 eL_law_2179 ?_
          refine xa_i2lw eL_law_2181 ?_
          refine xa_lcmp eL_law_2182 r9 (wr_64 _) ?_
          refine xa_ifc_eq (tgt := 2188) eL_law_2183 (by decide) (fun c2183 => ?_) (fun c2183 => ?_)
          · refine xa_goto (tgt := 2358) eL_law_2188 (by decide) ?_
            refine X_room (hk _ _ (c + 4) _ _ _ _ _ ((h.mono (by omega)).txt (fun x a1 a2 a3 a4 a5 => by rw [apR_o a1 a5]; funext y; rw [up_oth (by omega), apS_o a3 a4]) ⟨⟨?_, ?_, by omega, ?_⟩, ?_, ?_, ?_⟩)) ⟨by omega, by omega⟩
            · rfl
            · rw [apR_o (by decide) (by decide), up_k (by decide)]; rfl
            · have z := BQ.app (a := av) (C := S) (S := (up (apS c av S) 42 0 0 (wr ((c : Int) + 4)))) (n := c) (by rw [e41]; exact t4)
              rw [apR_o (by decide) (by decide), up_oth (by decide)]
              exact z
            · rw [apR_30 (by decide) (by decide), up_k (by decide), apS_o (by decide) (by decide), apR_o (by decide) (by decide), up_k (by decide), apS_3 (by decide)]; exact t5
            · rw [apR_30 (by decide) (by decide), up_k (by decide), apS_o (by decide) (by decide), apR_o (by decide) (by decide), up_k (by decide), apS_3 (by decide)]; exact t6
            · rw [apR_o (by decide) (by decide), up_k (by decide), apS_3 (by decide)]; exact t7
          · exact absurd (by show apR c av (up (apS c av S) 42 0 0 (wr ((c : Int) + 4))) 42 0 0 = wr ((c : Int) + 4); rw [apR_o (by decide) (by decide), up_same]) c2183
      · exact absurd rfl c2166
    · exact absurd c9 c8
  · refine xs_istore_5 eL_law_2146 rfl ?_
    refine xs_aload_2 eL_law_2148 ?_
    refine xs_aload_0 eL_law_2149 ?_
    refine xs_iload_4 eL_law_2150 ?_
    refine xa_iconst eL_law_2152 ?_
    refine xa_iadd eL_law_2153 ?_
    refine xa_sld eL_law_2154 (by omega) hN ?_
    refine xbi_V10 (mi' := mX8_appendText) (y := yX8_appendText) eL_law_2155 (xw_5 (xtb_in (i := 1518) (by decide +kernel) (by decide +kernel)) wy_X8_appendText) rfl ⟨wd_X8_appendText, by decide, by decide⟩ (by decide) (fun _ => rfl) rfl (Nat.le_of_ble_eq_true rfl) rfl (G_appendText (n := c) ya t1 t3 (fun c8 => ?_) (fun c8 => ?_))
    · exact absurd c8 c9
    · refine xs_istore_6 eL_law_2158 rfl ?_
      refine xs_aload_2 eL_law_2160 ?_
      refine xbi_V00 (mi' := mX8_thrown) (y := yX8_thrown) eL_law_2161 (xw_5 (xtb_in (i := 1188) (by decide +kernel) (by decide +kernel)) wy_X8_thrown) rfl ⟨wd_X8_thrown, by decide, by decide⟩ (by decide) (fun _ => rfl) rfl (Nat.le_of_ble_eq_true rfl) rfl (k_X8_thrown ?_)
      rw [show up (up S 30 0 4 0) 30 0 4 1 30 0 4 = (1 : Int) from up_same _ _ _ _ _]
      refine xs_iload_5 eL_law_2164 ?_
      refine xa_icmp_eq (tgt := 2171) eL_law_2166 (by decide) (by decide) (by decide) (fun c2166 => ?_) (fun c2166 => ?_)
      · refine xs_iload_5 eL_law_2171 ?_
        refine xa_if_ne (tgt := 2188) eL_law_2173 (by decide) (by decide) (fun c2173 => ?_) (fun c2173 => ?_)
        · refine xa_goto (tgt := 2358) eL_law_2188 (by decide) ?_
          exact X_room (hk _ _ _ _ _ _ _ _ ((h.mono (by omega)).eq (fun x a1 a2 => by funext y; rw [up_oth (by omega), up_oth (by omega)]) (fun g hg => by rw [up_f (by omega), up_f (by omega)]))) ⟨by omega, by omega⟩
        · exact absurd c2173 (by decide)
      · exact absurd rfl c2166
