/-! the law: what it is built on; draws -/
theorem VS.cls {s n N : Nat} {T : Int} {C D : xS} (h : VS s n N T C) (e : ∀ x y, (x = 1 ∧ y = s) ∨ (x = 2 ∧ y = s) ∨ (x = 4 ∧ 8 * s ≤ y ∧ y < 8 * s + 8) ∨ (x = 5 ∧ y = s) ∨ (x = 10 ∧ 32 * s ≤ y ∧ y < 32 * s + 32) ∨ (x = 25 ∧ y = s) → D x y = C x y) : VS s n N T D := by
  obtain ⟨⟨a1, a2, a3, a4⟩, b, c, d, f, g, i⟩ := h
  have e2 := e 2 s (by omega)
  refine ⟨⟨by rw [e2]; exact a1, a2, by rw [e2]; exact a3, fun j hj => ?_⟩, b, c, by rw [e 1 s (by omega)]; exact d, fun p hp => ?_, fun j hj => ?_, by rw [e 5 s (by omega), e 25 s (by omega)]; exact i⟩
  · rw [e2, e 10 (32 * s + j) (by omega)]; exact a4 j hj
  · rw [e 4 (8 * s + p) (by omega)]; exact f p hp
  · rw [e2, e 10 (32 * s + j) (by omega)]; exact g j hj
/-- S is the state C, but for what is not looked at; the law's own numbers are in order -/
def BS (q : Int) (C S : xS) : Prop := (∀ x y, x < 33 → x ≠ 30 → ¬ sct x y → S x y = C x y) ∧ S 30 0 1 = 1 ∧ 0 ≤ S 30 0 2 ∧ S 30 0 2 ≤ q
theorem BS.at {q : Int} {C S : xS} (h : BS q C S) {x y : Nat} (h1 : x < 33) (h2 : x ≠ 30) (h3 : ¬ sct x y) : S x y = C x y := h.1 x y h1 h2 h3
theorem BS.mono {q q' : Int} {C S : xS} (h : BS q C S) (hq : q ≤ q') : BS q' C S := ⟨h.1, h.2.1, h.2.2.1, Int.le_trans h.2.2.2 hq⟩
theorem BS.rf {q : Int} {C S : xS} (h : BS q C S) : BS q S S := ⟨fun _ _ _ _ _ => rfl, h.2⟩
theorem BS.V {q T : Int} {C S : xS} {n N : Nat} (h : BS q C S) (hV : VS 0 n N T C) : VS 0 n N T S := hV.cls (fun x y e => h.at (by omega) (by omega) (by unfold sct; omega))
theorem BS.V' {q T : Int} {C S : xS} {n N : Nat} (h : BS q C S) (hV : VS 0 n N T S) : VS 0 n N T C := hV.cls (fun x y e => (h.at (by omega) (by omega) (by unfold sct; omega)).symm)
theorem BS.sc {q : Int} {C S S' : xS} (h : BS q C S) (g : scr S' S) : BS q C S' := by
  have e : S' 30 0 = S 30 0 := g 30 0 (by unfold sct; omega)
  exact ⟨fun x y h1 h2 h3 => (g x y h3).trans (h.1 x y h1 h2 h3), by rw [e]; exact h.2⟩
/-- after a change: the changed state is the new base -/
theorem BS.nw {q : Int} {C S D S' : xS} (h : BS q C S) (e : D 30 0 = S 30 0) (g : scr S' D) : BS q D S' := by
  have e2 : S' 30 0 = S 30 0 := (g 30 0 (by unfold sct; omega)).trans e
  exact ⟨fun x y h1 h2 h3 => g x y h3, by rw [e2]; exact h.2⟩
theorem BS.dr {q : Int} {C S : xS} (h : BS q C S) : BS (q + 1) C (up S 30 0 2 (S 30 0 2 + 1)) := by
  refine ⟨fun x y h1 h2 h3 => by rw [up_oth (by omega)]; exact h.1 x y h1 h2 h3, by rw [up_f (by decide)]; exact h.2.1, ?_⟩
  rw [up_same]
  have := h.2.2
  omega
theorem BS.tlq {q : Int} {C S : xS} {N : Nat} (h : BS q C S) (hN : N ≤ 32) : tlq 0 0 N S C := tlq.of (by rw [h.at (by decide) (by decide) (by unfold sct; omega)]) (fun j hj => h.at (by decide) (by decide) (by unfold sct; omega))
theorem lRL_219 : Cond.constantDouble RL 219 4607182419250377371 ∈ xtb := xtb_in (i := 887) (by decide +kernel) (by decide +kernel)
theorem xn_and {x : Int32} : 0 ≤ (x &&& Int32.ofInt 2147483647).toInt := by
  have h1 : (x &&& Int32.ofInt 2147483647).toInt = (x.toBitVec &&& (2147483647#32)).toInt := rfl
  have h2 : (x.toBitVec &&& (2147483647#32)).toNat ≤ 2147483647 := by rw [BitVec.toNat_and]; exact Nat.and_le_right
  rw [h1, BitVec.toInt_eq_toNat_of_lt (by omega)]
  omega
set_option maxHeartbeats 400000 in
theorem k_L_at {w : xW} {S : xS} {B : String → xS → Prop} {A : Int → xS → Prop} {k : Int} (hw : w.2.2.2.2.2.1 < 1000) (hk : 0 ≤ k) (hk1 : xr k) (hq : ∀ z, xr z → A z S) : Ki w mL_at yL_at 0 0 [xp 52 0, xi k] S A B := by
  refine K.of rfl rfl rfl rfl (Nat.le_of_ble_eq_true rfl) rfl ?_
  refine xs_iload_1 eL_at_0 ?_
  refine xs_aload_0 eL_at_1 ?_
  refine xa_slen eL_at_2 ?_
  refine xa_icmp_ge (tgt := 12) eL_at_3 (by decide) hk1 (by omega) (fun c3 => ?_) (fun c3 => ?_)
  · refine xa_iconst eL_at_12 ?_
    refine xs_istore_2 eL_at_13 rfl ?_
    refine xs_iload_2 eL_at_14 ?_
    refine xa_if_le (tgt := 37) eL_at_15 (by decide) (by decide) (fun c15 => ?_) (fun c15 => ?_)
    · refine xs_iload_2 eL_at_37 ?_
      exact xa_iret eL_at_38 rfl ⟨_, rfl, (by first | exact hq _ (xt_r _) | exact hq _ (by decide) | exact hq _ y33)⟩
    · exact absurd c15 (by decide)
  · refine xs_aload_0 eL_at_6 ?_
    refine xs_iload_1 eL_at_7 ?_
    refine xa_sld eL_at_8 (by omega) (by omega) ?_
    refine xa_goto (tgt := 13) eL_at_9 (by decide) ?_
    refine xs_istore_2 eL_at_13 rfl ?_
    refine xs_iload_2 eL_at_14 ?_
    refine xa_if_le (tgt := 37) eL_at_15 (by decide) (by first | exact xt_r _ | decide) (fun c15 => ?_) (fun c15 => ?_)
    · refine xs_iload_2 eL_at_37 ?_
      exact xa_iret eL_at_38 rfl ⟨_, rfl, (by first | exact hq _ (xt_r _) | exact hq _ (by decide) | exact hq _ y33)⟩
    · refine xs_iload_2 eL_at_18 ?_
      refine xa_sipush eL_at_19 (by decide) ?_
      refine xa_icmp_ge (tgt := 37) eL_at_22 (by decide) (by first | exact xt_r _ | decide) (by decide) (fun c22 => ?_) (fun c22 => ?_)
      · refine xs_iload_2 eL_at_37 ?_
        exact xa_iret eL_at_38 rfl ⟨_, rfl, (by first | exact hq _ (xt_r _) | exact hq _ (by decide) | exact hq _ y33)⟩
      · refine xs_iload_2 eL_at_25 ?_
        refine xa_ldc (a := (-1640531535)) eL_at_26 lRL_23 (by decide) ?_
        refine xa_imul eL_at_28 ?_
        refine xs_iload_1 eL_at_29 ?_
        refine xa_ldc (a := (-2048144789)) eL_at_30 lRL_24 (by decide) ?_
        refine xa_imul eL_at_32 ?_
        refine xa_ixor eL_at_33 (fun z33 y33 => ?_)
        refine xa_goto (tgt := 38) eL_at_34 (by decide) ?_
        exact xa_iret eL_at_38 rfl ⟨_, rfl, (by first | exact hq _ (xt_r _) | exact hq _ (by decide) | exact hq _ y33)⟩
theorem xmax_1 (n : Nat) : 1 ≤ xmax 1 (n : Int) ∧ xmax 1 (n : Int) ≤ (n : Int) + 1 := by unfold xmax; split <;> omega
set_option maxHeartbeats 400000 in
theorem k_draw {w : xW} {S C : xS} {B : String → xS → Prop} {A : Int → xS → Prop} {n q : Int} (hw : w.2.2.2.2.2.1 < 1000) (hB : BS q C S) (hQ : q ≤ 1000000) (hn : 1 ≤ n ∧ n ≤ 100000) (hq : ∀ (d : Nat) S', (d : Int) < n → BS (q + 1) C S' → A (d : Int) S') : Ki w mL_draw yL_draw 0 0 [xp 30 0, xi n] S A B := by
  refine K.of rfl rfl rfl rfl (Nat.le_of_ble_eq_true rfl) rfl ?_
  have hb := hB.2.2
  refine xs_aload_0 eL_draw_0 ?_
  refine g_X9_1 eL_draw_1 lRL_25 (hB.2.1) ?_
  refine xs_aload_0 eL_draw_4 ?_
  refine gr_X9_2 eL_draw_5 lRL_28 (fun r5 => ?_)
  refine xa_iconst eL_draw_8 ?_
  refine xs_aload_0 eL_draw_9 ?_
  refine g_X9_1 eL_draw_10 lRL_25 (hB.2.1) ?_
  refine xa_slen eL_draw_13 ?_
  refine xa_max eL_draw_14 lRL_32 lm_max1 li_Math lm_max2 (by decide) (Nat.le_of_ble_eq_true rfl) rfl (by decide) (by omega) ?_
  refine xa_irem eL_draw_17 (by omega) (by have := xmax_1 w.2.2.2.2.2.1; omega) (by have := xmax_1 w.2.2.2.2.2.1; omega) ?_
  refine xbi_S20 (mi' := mL_at) (y := yL_at) eL_draw_18 (xw_4 lRL_38 wy_L_at) rfl rfl ⟨wd_L_at, by decide, by decide⟩ (Nat.le_of_ble_eq_true rfl) rfl (k_L_at hw (Int.tmod_nonneg _ (by omega)) (by have h1 := Int.tmod_nonneg (xmax 1 w.2.2.2.2.2.1) hb.1; have h3 := xmax_1 w.2.2.2.2.2.1; have h2 := Int.tmod_lt_of_pos (S 30 0 2) (show 0 < xmax 1 (w.2.2.2.2.2.1 : Int) by omega); omega) (fun z18 y18 => ?_))
  refine xs_aload_0 eL_draw_21 ?_
  refine gr_X9_2 eL_draw_22 lRL_28 (fun r22 => ?_)
  refine xa_ldc (a := 668265263) eL_draw_25 lRL_42 (by decide) ?_
  refine xa_imul eL_draw_27 ?_
  refine xa_iadd eL_draw_28 ?_
  refine xs_istore_2 eL_draw_29 rfl ?_
  refine xs_aload_0 eL_draw_30 ?_
  refine xa_dup eL_draw_31 rfl ?_
  refine gr_X9_2 eL_draw_32 lRL_28 (fun r32 => ?_)
  refine xa_iconst eL_draw_35 ?_
  refine xa_iadd eL_draw_36 ?_
  refine p_X9_2 eL_draw_37 lRL_28 (by omega) ?_
  refine xs_iload_2 eL_draw_40 ?_
  refine xs_iload_2 eL_draw_41 ?_
  refine xa_bipush eL_draw_42 (by decide) ?_
  refine xa_iushr eL_draw_44 (fun z44 y44 => ?_)
  refine xa_ixor eL_draw_45 (fun z45 y45 => ?_)
  refine xs_istore_2 eL_draw_46 rfl ?_
  refine xs_iload_2 eL_draw_47 ?_
  refine xa_ldc (a := 739982445) eL_draw_48 lRL_43 (by decide) ?_
  refine xa_imul eL_draw_50 ?_
  refine xs_istore_2 eL_draw_51 rfl ?_
  refine xs_iload_2 eL_draw_52 ?_
  refine xs_iload_2 eL_draw_53 ?_
  refine xa_bipush eL_draw_54 (by decide) ?_
  refine xa_iushr eL_draw_56 (fun z56 y56 => ?_)
  refine xa_ixor eL_draw_57 (fun z57 y57 => ?_)
  refine xs_istore_2 eL_draw_58 rfl ?_
  refine xs_iload_2 eL_draw_59 ?_
  refine xa_ldc (a := 2147483647) eL_draw_60 lRL_44 (by decide) ?_
  refine xa_iand eL_draw_62 ?_
  refine xs_iload_1 eL_draw_63 ?_
  refine xa_irem eL_draw_64 (xt_r _) (by omega) (by omega) ?_
  exact xa_iret eL_draw_65 rfl ⟨_, rfl, (by have h9 := hq ((Int32.ofInt z57 &&& Int32.ofInt 2147483647).toInt.tmod n).toNat _ ?_ hB.dr; rw [Int.toNat_of_nonneg (Int.tmod_nonneg _ xn_and)] at h9; exact h9; rw [Int.toNat_of_nonneg (Int.tmod_nonneg _ xn_and)]; exact Int.tmod_lt_of_pos _ (by omega))⟩
