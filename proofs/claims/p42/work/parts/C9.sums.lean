/-! the law: sums -/
theorem BS.fut {q : Int} {C S : xS} {N : Nat} (h : BS q C S) (hN : N ≤ 20) (g : Fut 0 N C) : Fut 0 N S := g.of (h.at (by decide) (by decide) (by unfold sct; omega)) (fun j hj => h.at (by decide) (by decide) (by unfold sct; omega))
theorem own_liv {T : Int} {C : xS} : ∀ {N : Nat}, (∀ j, j < N → 0 ≤ C 10 j 1 ∧ C 10 j 1 < 4) → sm (fun p => ownP p N C) 4 = livP N C
  | 0, _ => rfl
  | N + 1, h => by
    have h1 := own_liv (T := T) (N := N) (fun j hj => h j (by omega))
    have h2 := h N (by omega)
    have e : ∀ p : Nat, ownP p (N + 1) C = ownP p N C + (if C 10 N 0 = 0 ∧ C 10 N 1 = (p : Int) then 1 else 0) := fun p => rfl
    have e4 : ∀ f : Nat → Int, sm f 4 = 0 + f 0 + f 1 + f 2 + f 3 := fun f => rfl
    have el : livP (N + 1) C = livP N C + (if C 10 N 0 = 0 then 1 else 0) := rfl
    rw [e4] at h1 ⊢
    rw [e, e, e, e, el]
    have h3 : C 10 N 1 = ((0 : Nat) : Int) ∨ C 10 N 1 = ((1 : Nat) : Int) ∨ C 10 N 1 = ((2 : Nat) : Int) ∨ C 10 N 1 = ((3 : Nat) : Int) := by omega
    by_cases c : C 10 N 0 = 0
    · rcases h3 with h3 | h3 | h3 | h3 <;> simp [c, h3] <;> omega
    · simp [c]; omega
set_option maxHeartbeats 1000000 in
theorem k_sums {w : xW} {S : xS} {B : String → xS → Prop} {A : Int → xS → Prop} {C : xS} {N : Nat} {T q : Int} (hB : BS q C S) (hV : VS 0 4 N T C) (hT : T ≤ 800000) (g : Fut 0 N C) (hE : EX N C) (hq : ∀ S', BS q C S' → A 1 S') : Ki w mL_sums yL_sums 1 6 [xp 30 0] S A B := by
  refine K.of rfl rfl rfl rfl (Nat.le_of_ble_eq_true rfl) rfl ?_
  have hN := hV.2.1
  obtain ⟨x1, x2, x3, x4, x5, x6, x7, x8⟩ := hE
  have x9 := own_liv (T := T) (C := C) (N := N) (fun j hj => (hV.O hj).1)
  unfold smQ smP at x3 x4
  unfold smQ at x5
  unfold smP at x6 x7
  have hr : (0 ≤ C 1 0 10 ∧ C 1 0 10 ≤ T) ∧ (0 ≤ C 1 0 11 ∧ C 1 0 11 ≤ T) := by have h9 := hV.2.2.2.1; unfold GQ at h9; omega
  have hp8 : ∀ p, p < 4 → (0 ≤ C 4 p 8 ∧ C 4 p 8 ≤ 99 * T) ∧ 0 ≤ C 4 p 9 ∧ C 4 p 9 ≤ 99 * T := fun p hp => by have h9 := hV.P hp; unfold PQ at h9; omega
  have hl8 : 0 ≤ livP N C ∧ livP N C ≤ N := by have h9 := sm_range (g := fun j => if C 10 j 0 = 0 then 1 else 0) (lo := 0) (hi := 1) (n := N) (fun j _ => by split <;> omega); unfold livP; omega
  have hl9 : (0 ≤ sm (fun p => C 4 p 8) 4 ∧ sm (fun p => C 4 p 8) 4 ≤ 400 * T) ∧ 0 ≤ sm (fun p => C 4 p 9) 4 ∧ sm (fun p => C 4 p 9) 4 ≤ 400 * T := by
    have h0 := hp8 0 (by omega); have h1 := hp8 1 (by omega); have h2 := hp8 2 (by omega); have h3 := hp8 3 (by omega)
    have e4 : ∀ f : Nat → Int, sm f 4 = 0 + f 0 + f 1 + f 2 + f 3 := fun f => rfl
    rw [e4, e4]
    have hT0 := hV.1.2.2.1
    omega
  have lp2 : ∀ i : Nat, i ≤ 4 → ∀ a b : Int, a = sm (fun j => C 10 j 12) N - sm (fun p => C 4 p 5) i → b = sm (fun j => C 10 j 13) N - sm (fun p => C 4 p 6) i → X w mL_sums (xTG w (fun v S' => ∃ a, v = some (xi a) ∧ A a S') B) 1 6 85 [xp 30 0, xi a, xi b, xi (sm (fun j => C 10 j 14) N), xi (sm (fun p => C 4 p 7) i), xi (sm (fun p => C 4 p 8) i), xi (sm (fun p => C 4 p 9) i), xi (sm (fun p => ownP p N C) i), xi (i : Int)] [] S := by
    refine nloop 4 (fun i hi ih a b ha hb => ?_)
    by_cases h4 : i = 4
    · subst h4
      refine xs_iload_8 eL_sums_85 ?_
      refine xa_iconst eL_sums_87 ?_
      refine xa_icmp_ge (tgt := 188) eL_sums_88 (by decide) (by omega) (by omega) (fun c88 => ?_) (fun c88 => ?_)
      · refine xs_iload_1 eL_sums_188 ?_
        refine xa_if_ne (tgt := 275) eL_sums_189 (by decide) (by omega) (fun c189 => ?_) (fun c189 => ?_)
        · exfalso; omega
        · refine xs_iload_2 eL_sums_192 ?_
          refine xa_if_ne (tgt := 275) eL_sums_193 (by decide) (by omega) (fun c193 => ?_) (fun c193 => ?_)
          · exfalso; omega
          · refine xs_iload_3 eL_sums_196 ?_
            refine xs_aload_0 eL_sums_197 ?_
            refine g_X9_0 eL_sums_198 lRL_10 ?_
            refine xa_bipush eL_sums_201 (by decide) ?_
            refine xbi_W20 (mi' := mL_count) (y := yL_count) eL_sums_203 (xw_4 lRL_146 wy_L_count) rfl ⟨wd_L_count, by decide, by decide⟩ (Nat.le_of_ble_eq_true rfl) rfl (wc_9 hB hV hT ?_)
            refine xa_icmp_ne (tgt := 275) eL_sums_206 (by decide) (by omega) (by omega) (fun c206 => ?_) (fun c206 => ?_)
            · exfalso; omega
            · refine xs_iload_4 eL_sums_209 ?_
              refine xs_aload_0 eL_sums_211 ?_
              refine g_X9_0 eL_sums_212 lRL_10 ?_
              refine xa_bipush eL_sums_215 (by decide) ?_
              refine xbi_W20 (mi' := mL_count) (y := yL_count) eL_sums_217 (xw_4 lRL_146 wy_L_count) rfl ⟨wd_L_count, by decide, by decide⟩ (Nat.le_of_ble_eq_true rfl) rfl (wc_10 hB hV hT ?_)
              refine xa_icmp_ne (tgt := 275) eL_sums_220 (by decide) (by omega) (by omega) (fun c220 => ?_) (fun c220 => ?_)
              · exfalso; omega
              · refine xs_iload_5 eL_sums_223 ?_
                refine xs_iload_6 eL_sums_225 ?_
                refine xa_icmp_ne (tgt := 275) eL_sums_227 (by decide) (by omega) (by omega) (fun c227 => ?_) (fun c227 => ?_)
                · exfalso; omega
                · refine xs_iload_7 eL_sums_230 ?_
                  refine xs_aload_0 eL_sums_232 ?_
                  refine g_X9_0 eL_sums_233 lRL_10 ?_
                  refine xa_iconst eL_sums_236 ?_
                  refine xbi_W20 (mi' := mL_count) (y := yL_count) eL_sums_237 (xw_4 lRL_146 wy_L_count) rfl ⟨wd_L_count, by decide, by decide⟩ (Nat.le_of_ble_eq_true rfl) rfl (wc_3 hB hV hT ?_)
                  refine xa_icmp_ne (tgt := 275) eL_sums_240 (by decide) (by omega) (by omega) (fun c240 => ?_) (fun c240 => ?_)
                  · exfalso; omega
                  · refine xs_aload_0 eL_sums_243 ?_
                    refine g_X9_0 eL_sums_244 lRL_10 ?_
                    refine xbd_V00 (mi' := mX7_load) (y := yX7_load) eL_sums_247 (xw_5 lRL_215 wy_X7_load) rfl ⟨wd_X7_load, by decide, by decide⟩ (by decide) (fun _ => rfl) rfl (Nat.le_of_ble_eq_true rfl) rfl (F_load (hB.V hV) hT (fun D S9 hD s9 => ?_))
                    obtain ⟨z9, hz1, hz2, hz3⟩ := load_ok (hB.V hV) (hB.fut hN g) hD
                    refine xa_ldcd eL_sums_250 lRL_219 ?_
                    refine xa_dcmp eL_sums_253 hz1 ?_
                    refine xa_if_gt (tgt := 275) eL_sums_254 (by decide) hz2 (fun c254 => ?_) (fun c254 => ?_)
                    · exfalso; omega
                    · refine xs_aload_0 eL_sums_257 ?_
                      refine g_X9_0 eL_sums_258 lRL_10 ?_
                      refine xa_iconst eL_sums_261 ?_
                      refine xa_iconst eL_sums_262 ?_
                      refine xbi_W3 (mi' := mL_told) (y := yL_told) eL_sums_263 (xw_4 lRL_171 wy_L_told) rfl ⟨wd_L_told, by decide, by decide⟩ (Nat.le_of_ble_eq_true rfl) rfl ⟨by decide, by decide⟩ (w_toldX (hB.sc s9) hV hT (fun S8 b8 => ?_))
                      refine xa_bipush eL_sums_266 (by decide) ?_
                      refine xa_icmp_ne (tgt := 275) eL_sums_268 (by decide) (by omega) (by omega) (fun c268 => ?_) (fun c268 => ?_)
                      · exfalso; omega
                      · refine xa_iconst eL_sums_271 ?_
                        refine xa_goto (tgt := 276) eL_sums_272 (by decide) ?_
                        exact xa_zret eL_sums_276 rfl (by omega) ⟨_, rfl, (hq _ b8)⟩
      · exfalso; omega
    · skip
      refine xs_iload_8 eL_sums_85 ?_
      refine xa_iconst eL_sums_87 ?_
      refine xa_icmp_ge (tgt := 188) eL_sums_88 (by decide) (by omega) (by omega) (fun c88 => ?_) (fun c88 => ?_)
      · exfalso; omega
      · refine xs_iload_1 eL_sums_91 ?_
        refine xs_aload_0 eL_sums_92 ?_
        refine g_X9_0 eL_sums_93 lRL_10 ?_
        refine xs_iload_8 eL_sums_96 ?_
        refine xa_iconst eL_sums_98 ?_
        refine xbi_W30 (mi' := mL_process) (y := yL_process) eL_sums_99 (xw_4 lRL_149 wy_L_process) rfl ⟨wd_L_process, by decide, by decide⟩ (Nat.le_of_ble_eq_true rfl) rfl (wp_5 hB hV hT (show i < 4 by omega) ?_)
        refine xa_isub eL_sums_102 ?_
        refine xs_istore_1 eL_sums_103 rfl ?_
        refine xs_iload_2 eL_sums_104 ?_
        refine xs_aload_0 eL_sums_105 ?_
        refine g_X9_0 eL_sums_106 lRL_10 ?_
        refine xs_iload_8 eL_sums_109 ?_
        refine xa_bipush eL_sums_111 (by decide) ?_
        refine xbi_W30 (mi' := mL_process) (y := yL_process) eL_sums_113 (xw_4 lRL_149 wy_L_process) rfl ⟨wd_L_process, by decide, by decide⟩ (Nat.le_of_ble_eq_true rfl) rfl (wp_6 hB hV hT (show i < 4 by omega) ?_)
        refine xa_isub eL_sums_116 ?_
        refine xs_istore_2 eL_sums_117 rfl ?_
        refine xs_iload_4 eL_sums_118 ?_
        refine xs_aload_0 eL_sums_120 ?_
        refine g_X9_0 eL_sums_121 lRL_10 ?_
        refine xs_iload_8 eL_sums_124 ?_
        refine xa_bipush eL_sums_126 (by decide) ?_
        refine xbi_W30 (mi' := mL_process) (y := yL_process) eL_sums_128 (xw_4 lRL_149 wy_L_process) rfl ⟨wd_L_process, by decide, by decide⟩ (Nat.le_of_ble_eq_true rfl) rfl (wp_7 hB hV hT (show i < 4 by omega) ?_)
        refine xa_iadd eL_sums_131 ?_
        refine xs_istore_4 eL_sums_132 rfl ?_
        refine xs_iload_5 eL_sums_134 ?_
        refine xs_aload_0 eL_sums_136 ?_
        refine g_X9_0 eL_sums_137 lRL_10 ?_
        refine xs_iload_8 eL_sums_140 ?_
        refine xa_bipush eL_sums_142 (by decide) ?_
        refine xbi_W30 (mi' := mL_process) (y := yL_process) eL_sums_144 (xw_4 lRL_149 wy_L_process) rfl ⟨wd_L_process, by decide, by decide⟩ (Nat.le_of_ble_eq_true rfl) rfl (wp_8 hB hV hT (show i < 4 by omega) ?_)
        refine xa_iadd eL_sums_147 ?_
        refine xs_istore_5 eL_sums_148 rfl ?_
        refine xs_iload_6 eL_sums_150 ?_
        refine xs_aload_0 eL_sums_152 ?_
        refine g_X9_0 eL_sums_153 lRL_10 ?_
        refine xs_iload_8 eL_sums_156 ?_
        refine xa_bipush eL_sums_158 (by decide) ?_
        refine xbi_W30 (mi' := mL_process) (y := yL_process) eL_sums_160 (xw_4 lRL_149 wy_L_process) rfl ⟨wd_L_process, by decide, by decide⟩ (Nat.le_of_ble_eq_true rfl) rfl (wp_9 hB hV hT (show i < 4 by omega) ?_)
        refine xa_iadd eL_sums_163 ?_
        refine xs_istore_6 eL_sums_164 rfl ?_
        refine xs_iload_7 eL_sums_166 ?_
        refine xs_aload_0 eL_sums_168 ?_
        refine g_X9_0 eL_sums_169 lRL_10 ?_
        refine xs_iload_8 eL_sums_172 ?_
        refine xa_bipush eL_sums_174 (by decide) ?_
        refine xbi_W30 (mi' := mL_process) (y := yL_process) eL_sums_176 (xw_4 lRL_149 wy_L_process) rfl ⟨wd_L_process, by decide, by decide⟩ (Nat.le_of_ble_eq_true rfl) rfl (wp_11 hB hV hT (show i < 4 by omega) ?_)
        refine xa_iadd eL_sums_179 ?_
        refine xs_istore_7 eL_sums_180 rfl ?_
        refine xs_iinc_8 eL_sums_182 rfl ?_
        refine xa_goto (tgt := 85) eL_sums_185 (by decide) ?_
        exact ih (i + 1) (by omega) (by omega) _ _ (by rw [sm_s]; omega) (by rw [sm_s]; omega)
  have lp1 : ∀ i : Nat, i ≤ N → X w mL_sums (xTG w (fun v S' => ∃ a, v = some (xi a) ∧ A a S') B) 1 6 21 [xp 30 0, xi (sm (fun j => C 10 j 12) i), xi (sm (fun j => C 10 j 13) i), xi (sm (fun j => C 10 j 14) i), xi 0, xi 0, xi 0, xi 0, xi (i : Int)] [] S := by
    refine nloop N (fun i hi ih => ?_)
    by_cases h4 : i = N
    · subst h4
      refine xs_iload_8 eL_sums_21 ?_
      refine xs_aload_0 eL_sums_23 ?_
      refine g_X9_0 eL_sums_24 lRL_10 ?_
      refine xa_iconst eL_sums_27 ?_
      refine xbi_W20 (mi' := mL_count) (y := yL_count) eL_sums_28 (xw_4 lRL_146 wy_L_count) rfl ⟨wd_L_count, by decide, by decide⟩ (Nat.le_of_ble_eq_true rfl) rfl (wc_2 hB hV hT ?_)
      refine xa_icmp_ge (tgt := 82) eL_sums_31 (by decide) (by omega) (by omega) (fun c31 => ?_) (fun c31 => ?_)
      · refine xa_iconst eL_sums_82 ?_
        refine xs_istore_8 eL_sums_83 rfl ?_
        exact lp2 0 (by omega) _ _ (by rw [show sm (fun p => C 4 p 5) 0 = 0 from rfl]; omega) (by rw [show sm (fun p => C 4 p 6) 0 = 0 from rfl]; omega)
      · exfalso; omega
    · skip
      refine xs_iload_8 eL_sums_21 ?_
      refine xs_aload_0 eL_sums_23 ?_
      refine g_X9_0 eL_sums_24 lRL_10 ?_
      refine xa_iconst eL_sums_27 ?_
      refine xbi_W20 (mi' := mL_count) (y := yL_count) eL_sums_28 (xw_4 lRL_146 wy_L_count) rfl ⟨wd_L_count, by decide, by decide⟩ (Nat.le_of_ble_eq_true rfl) rfl (wc_2 hB hV hT ?_)
      refine xa_icmp_ge (tgt := 82) eL_sums_31 (by decide) (by omega) (by omega) (fun c31 => ?_) (fun c31 => ?_)
      · exfalso; omega
      · refine xs_iload_1 eL_sums_34 ?_
        refine xs_aload_0 eL_sums_35 ?_
        refine g_X9_0 eL_sums_36 lRL_10 ?_
        refine xs_iload_8 eL_sums_39 ?_
        refine xa_bipush eL_sums_41 (by decide) ?_
        refine xbi_W30 (mi' := mL_told) (y := yL_told) eL_sums_43 (xw_4 lRL_171 wy_L_told) rfl ⟨wd_L_told, by decide, by decide⟩ (Nat.le_of_ble_eq_true rfl) rfl (wt_12 hB hV hT (show i < N by omega) ?_)
        refine xa_iadd eL_sums_46 ?_
        refine xs_istore_1 eL_sums_47 rfl ?_
        refine xs_iload_2 eL_sums_48 ?_
        refine xs_aload_0 eL_sums_49 ?_
        refine g_X9_0 eL_sums_50 lRL_10 ?_
        refine xs_iload_8 eL_sums_53 ?_
        refine xa_bipush eL_sums_55 (by decide) ?_
        refine xbi_W30 (mi' := mL_told) (y := yL_told) eL_sums_57 (xw_4 lRL_171 wy_L_told) rfl ⟨wd_L_told, by decide, by decide⟩ (Nat.le_of_ble_eq_true rfl) rfl (wt_13 hB hV hT (show i < N by omega) ?_)
        refine xa_iadd eL_sums_60 ?_
        refine xs_istore_2 eL_sums_61 rfl ?_
        refine xs_iload_3 eL_sums_62 ?_
        refine xs_aload_0 eL_sums_63 ?_
        refine g_X9_0 eL_sums_64 lRL_10 ?_
        refine xs_iload_8 eL_sums_67 ?_
        refine xa_bipush eL_sums_69 (by decide) ?_
        refine xbi_W30 (mi' := mL_told) (y := yL_told) eL_sums_71 (xw_4 lRL_171 wy_L_told) rfl ⟨wd_L_told, by decide, by decide⟩ (Nat.le_of_ble_eq_true rfl) rfl (wt_14 hB hV hT (show i < N by omega) ?_)
        refine xa_iadd eL_sums_74 ?_
        refine xs_istore_3 eL_sums_75 rfl ?_
        refine xs_iinc_8 eL_sums_76 rfl ?_
        refine xa_goto (tgt := 21) eL_sums_79 (by decide) ?_
        exact ih (i + 1) (by omega) (by omega)
  refine xa_iconst eL_sums_0 ?_
  refine xs_istore_1 eL_sums_1 rfl ?_
  refine xa_iconst eL_sums_2 ?_
  refine xs_istore_2 eL_sums_3 rfl ?_
  refine xa_iconst eL_sums_4 ?_
  refine xs_istore_3 eL_sums_5 rfl ?_
  refine xa_iconst eL_sums_6 ?_
  refine xs_istore_4 eL_sums_7 rfl ?_
  refine xa_iconst eL_sums_9 ?_
  refine xs_istore_5 eL_sums_10 rfl ?_
  refine xa_iconst eL_sums_12 ?_
  refine xs_istore_6 eL_sums_13 rfl ?_
  refine xa_iconst eL_sums_15 ?_
  refine xs_istore_7 eL_sums_16 rfl ?_
  refine xa_iconst eL_sums_18 ?_
  refine xs_istore_8 eL_sums_19 rfl ?_
  exact lp1 0 (by omega)
