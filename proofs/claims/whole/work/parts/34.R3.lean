/-! PromiseMarketModel: a tick -/
theorem gk_6 {q : Nat} (h : q < 6) : gk (6 + q) = (1, 8 + q) := by
  have a : q = 0 ∨ q = 1 ∨ q = 2 ∨ q = 3 ∨ q = 4 ∨ q = 5 := by omega
  rcases a with rfl | rfl | rfl | rfl | rfl | rfl <;> rfl
theorem gl_6 {s q : Nat} {C : xS} (h : q < 6) : gl s C (6 + q) = C 1 s (8 + q) := by
  have a : q = 0 ∨ q = 1 ∨ q = 2 ∨ q = 3 ∨ q = 4 ∨ q = 5 := by omega
  rcases a with rfl | rfl | rfl | rfl | rfl | rfl <;> rfl
theorem r_X8_noteq {w : xW} {S C : xS} {B : String → xS → Prop} {s n N : Nat} {M : Nat → Int} {A : xS → Prop} {a b c : Int} {j g q : Nat} (hR : Rel s n N C M) (ea : a = (j : Int)) (eb : b = (g : Int)) (ec : c = (q : Int)) (hj : j < N) (hN : N ≤ 20) (hg : g ≤ 16) (h6 : g ≠ 6) (h7 : g ≠ 7) (h8 : g ≠ 8) (hc : q < 6) (h1 : x64 (C 10 (32 * s + j) g + 1)) (h2 : x64 (C 1 s (8 + q) + 1)) (hq : ∀ M', Rel s n N (up (up C 10 (32 * s + j) g (C 10 (32 * s + j) g + 1)) 1 s (8 + q) (C 1 s (8 + q) + 1)) M' → A (stM M' S)) : Kv w mX8_note yX8_note 0 0 [xp 30 0, xi a, xi b, xi c] (stM M S) A B :=
  r_X8_note hR ea eb ec hj hN hg h6 h7 h8 hc h1 (by rw [gl_6 hc]; exact h2) (fun M' h => hq M' (by rw [gk_6 hc, gl_6 hc] at h; exact h))
/-- the end of a tick in the reference, row by row -/
def RelE (s n N i : Nat) (D : xS) (M : Nat → Int) : Prop := (M 0 = D 2 s 2 + 1 ∧ M 11 = D 1 s 13 + sm (fun j => b2i (0 < D 10 (32 * s + j) 6 ∧ D 10 (32 * s + j) 7 ≤ D 2 s 2 + 1)) i ∧ ∀ k, 1 ≤ k → k < 15 → k ≠ 11 → M k = gl s D k) ∧ (∀ p f, p < 8 → f < 11 → M (15 + 11 * p + f) = if p < n then D 4 (8 * s + p) f else 0) ∧ (∀ j, j < i → PR (D 2 s 2 + 1) (xmis (D 2 s 2 + 1) (D 10 (32 * s + j))) (fun f => M (103 + 18 * j + f))) ∧ (∀ j, i ≤ j → j < N → PR (D 2 s 2) (D 10 (32 * s + j)) (fun f => M (103 + 18 * j + f))) ∧ ∀ q, q < 64 → M (463 + q) = D 25 s q
theorem RelE.zero {s n N : Nat} {D : xS} {M : Nat → Int} (h : Rel s n N D M) : RelE s n N 0 D (upM M 0 (D 2 s 2 + 1)) := by
  obtain ⟨h1, h2, h3, h4⟩ := h
  refine ⟨⟨upM_same _ _ _, ?_, fun k k1 k15 _ => by rw [upM_o (by omega)]; exact h1 k k15⟩, fun p f hp hf => by rw [upM_o (by omega)]; exact h2 p f hp hf, fun j hj => absurd hj (by omega), fun j _ hj => ?_, fun q hq => by rw [upM_o (by omega)]; exact h4 q hq⟩
  · rw [upM_o (by decide), h1 11 (by decide)]
    show D 1 s 13 = D 1 s 13 + 0
    omega
  · exact (h3 j hj).g (fun f hf => upM_o (by omega))
theorem PR.mis {t : Int} {F G : Nat → Int} (h : PR t F G) (c : ¬ (0 < F 6 ∧ F 7 ≤ t + 1)) (h6 : 0 ≤ F 6) : PR (t + 1) (xmis (t + 1) F) G := by
  have e : xmis (t + 1) F = F := by funext f; unfold xmis; rw [if_neg c]
  rw [e]
  unfold PR at h ⊢
  refine ⟨h.1, h.2.1, ?_⟩
  omega
theorem RelE.skip {s n N i : Nat} {D : xS} {M : Nat → Int} (h : RelE s n N i D M) (hi : i < N) (c : ¬ (0 < D 10 (32 * s + i) 6 ∧ D 10 (32 * s + i) 7 ≤ D 2 s 2 + 1)) (h6 : 0 ≤ D 10 (32 * s + i) 6) : RelE s n N (i + 1) D M := by
  obtain ⟨⟨a1, a2, a3⟩, h2, h3, h4, h5⟩ := h
  refine ⟨⟨a1, by rw [sm_s, a2, b2i, if_neg c]; omega, a3⟩, h2, fun j hj => ?_, fun j hj hjN => h4 j (by omega) hjN, h5⟩
  by_cases e : j = i
  · subst e
    exact (h4 j (Nat.le_refl _) hi).mis c h6
  · exact h3 j (by omega)
theorem RelE.miss {s n N i : Nat} {D : xS} {M : Nat → Int} (h : RelE s n N i D M) (hi : i < N) (hN : N ≤ 20) (c : 0 < D 10 (32 * s + i) 6 ∧ D 10 (32 * s + i) 7 ≤ D 2 s 2 + 1) : RelE s n N (i + 1) D (upM (upM M (103 + 18 * i + 16) (M (103 + 18 * i + 16) + 1)) 11 (M 11 + 1)) := by
  obtain ⟨⟨a1, a2, a3⟩, h2, h3, h4, h5⟩ := h
  refine ⟨⟨by rw [upM_o (by decide), upM_o (by omega)]; exact a1, ?_, fun k k1 k15 k11 => by rw [upM_o k11, upM_o (by omega)]; exact a3 k k1 k15 k11⟩, fun p f hp hf => by rw [upM_o (by omega), upM_o (by omega)]; exact h2 p f hp hf, fun j hj => ?_, fun j hj hjN => ?_, fun q hq => by rw [upM_o (by omega), upM_o (by omega)]; exact h5 q hq⟩
  · rw [upM_same, sm_s, a2, b2i, if_pos c]; omega
  · by_cases e : j = i
    · subst e
      have h9 := h4 j (Nat.le_refl _) hi
      unfold PR at h9 ⊢
      dsimp only at h9 ⊢
      have e0 : ∀ f, f ≠ 16 → f < 18 → upM (upM M (103 + 18 * j + 16) (M (103 + 18 * j + 16) + 1)) 11 (M 11 + 1) (103 + 18 * j + f) = M (103 + 18 * j + f) := fun f hf hf2 => by rw [upM_o (by omega), upM_o (by omega)]
      have e16 : upM (upM M (103 + 18 * j + 16) (M (103 + 18 * j + 16) + 1)) 11 (M 11 + 1) (103 + 18 * j + 16) = M (103 + 18 * j + 16) + 1 := by rw [upM_o (by omega), upM_same]
      have x6 : xmis (D 2 s 2 + 1) (D 10 (32 * s + j)) 6 = 0 := by unfold xmis; rw [if_pos c, if_pos rfl]
      have x16 : xmis (D 2 s 2 + 1) (D 10 (32 * s + j)) 16 = D 10 (32 * s + j) 16 + 1 := by unfold xmis; rw [if_pos c, if_neg (by decide), if_pos rfl]
      have xo : ∀ f, f ≠ 6 → f ≠ 16 → xmis (D 2 s 2 + 1) (D 10 (32 * s + j)) f = D 10 (32 * s + j) f := fun f f6 f16 => by unfold xmis; rw [if_pos c, if_neg f6, if_neg f16]
      refine ⟨fun f h16 q6 q7 q8 => ?_, by rw [e0 7 (by decide) (by decide)]; exact h9.2.1, Or.inr ⟨by rw [xo 7 (by decide) (by decide)]; exact c.2, x6, ?_⟩⟩
      · by_cases f16 : f = 16
        · subst f16; rw [e16, x16, h9.1 16 (by decide) (by decide) (by decide) (by decide)]
        · rw [e0 f f16 (by omega), xo f q6 f16]; exact h9.1 f h16 q6 q7 q8
      · rw [e0 17 (by decide) (by decide), e0 7 (by decide) (by decide)]
        omega
    · exact (h3 j (by omega)).g (fun f hf => by rw [upM_o (by omega), upM_o (by omega)])
  · exact (h4 j (by omega) hjN).g (fun f hf => by rw [upM_o (by omega), upM_o (by omega)])
theorem RelE.fin {s n N : Nat} {D : xS} {M : Nat → Int} (h : RelE s n N N D M) : Rel s n N (endS s N D) M := by
  obtain ⟨⟨a1, a2, a3⟩, h2, h3, h4, h5⟩ := h
  have e2 : ∀ f, f ≠ 2 → endS s N D 2 s f = D 2 s f := fun f hf => by unfold endS; rw [up_k (by decide)]; unfold groT; rw [if_neg (by omega), if_neg (by omega)]
  have e22 : endS s N D 2 s 2 = D 2 s 2 + 1 := by unfold endS; rw [up_k (by decide)]; unfold groT; rw [if_pos ⟨rfl, rfl, rfl⟩]
  have e1 : ∀ f, f ≠ 13 → endS s N D 1 s f = D 1 s f := fun f hf => by unfold endS; rw [up_f hf]; unfold groT; rw [if_neg (by omega), if_neg (by omega)]
  have e13 : endS s N D 1 s 13 = D 1 s 13 + misT s N D := by unfold endS; rw [up_same]
  have eo : ∀ k, k ≠ 1 → k ≠ 2 → k ≠ 10 → endS s N D k = D k := fun k k1 k2 k10 => by funext j f; unfold endS; rw [up_k k1]; unfold groT; rw [if_neg (by omega), if_neg (by omega)]
  have er : ∀ j, j < N → endS s N D 10 (32 * s + j) = xmis (D 2 s 2 + 1) (D 10 (32 * s + j)) := fun j hj => by funext f; unfold endS; rw [up_k (by decide)]; unfold groT; rw [if_neg (by omega), if_pos ⟨rfl, by omega, by omega⟩]
  refine ⟨fun i hi => ?_, fun p f hp hf => by rw [eo 4 (by decide) (by decide) (by decide)]; exact h2 p f hp hf, fun j hj => by rw [e22, er j hj]; exact h3 j hj, fun q hq => by rw [eo 25 (by decide) (by decide) (by decide)]; exact h5 q hq⟩
  have b : i = 0 ∨ i = 1 ∨ i = 2 ∨ i = 3 ∨ i = 4 ∨ i = 5 ∨ i = 6 ∨ i = 7 ∨ i = 8 ∨ i = 9 ∨ i = 10 ∨ i = 11 ∨ i = 12 ∨ i = 13 ∨ i = 14 := by omega
  rcases b with rfl | rfl | rfl | rfl | rfl | rfl | rfl | rfl | rfl | rfl | rfl | rfl | rfl | rfl | rfl
  · rw [a1]; exact e22.symm
  · rw [a3 1 (by decide) (by decide) (by decide)]; exact (e1 3 (by decide)).symm
  · rw [a3 2 (by decide) (by decide) (by decide)]; exact (e2 1 (by decide)).symm
  · rw [a3 3 (by decide) (by decide) (by decide)]; exact (e1 4 (by decide)).symm
  · rw [a3 4 (by decide) (by decide) (by decide)]; exact (e1 5 (by decide)).symm
  · rw [a3 5 (by decide) (by decide) (by decide)]; exact (e1 7 (by decide)).symm
  · rw [a3 6 (by decide) (by decide) (by decide)]; exact (e1 8 (by decide)).symm
  · rw [a3 7 (by decide) (by decide) (by decide)]; exact (e1 9 (by decide)).symm
  · rw [a3 8 (by decide) (by decide) (by decide)]; exact (e1 10 (by decide)).symm
  · rw [a3 9 (by decide) (by decide) (by decide)]; exact (e1 11 (by decide)).symm
  · rw [a3 10 (by decide) (by decide) (by decide)]; exact (e1 12 (by decide)).symm
  · rw [a2]; exact e13.symm
  · rw [a3 12 (by decide) (by decide) (by decide)]; show D 5 s 1 = endS s N D 5 s 1; rw [eo 5 (by decide) (by decide) (by decide)]
  · rw [a3 13 (by decide) (by decide) (by decide)]; show D 5 s 2 = endS s N D 5 s 2; rw [eo 5 (by decide) (by decide) (by decide)]
  · rw [a3 14 (by decide) (by decide) (by decide)]; exact (e1 6 (by decide)).symm
set_option maxHeartbeats 400000 in
theorem f_X8_waste {w : xW} {S : xS} {B : String → xS → Prop} {A : xS → Prop} {s n N : Nat} {T : Int} {C : xS} {M : Nat → Int} {b h : Nat} (hV : VS s n N T C) (hT : T ≤ 1000000) (hR : Rel s n N C M) (hh : h < n) (hb : b < N) (hq : ∀ M', Rel s n N (wstS s (8 * s + h) (32 * s + b) C) M' → A (stM M' S)) : Kv w mX8_waste yX8_waste 0 0 [xp 30 0, xi (b : Int), xi (h : Int)] (stM M S) A B := by
  refine K.of rfl rfl rfl rfl (Nat.le_of_ble_eq_true rfl) rfl ?_
  have hn8 := hV.2.2.1
  have hN20 := hV.2.1
  have hg := hV.g
  have hPh := hV.p hh
  have hOb := hV.o hb
  unfold GQ at hg
  unfold PQ at hPh
  unfold OQ at hOb
  have hx := xmin_or (C 1 s 4) (C 4 (8 * s + h) 0)
  have ht := hV.1.2.2.1
  refine xs_aload_0 eX8_waste_0 ?_
  refine xa_iconst eX8_waste_1 ?_
  refine xbi_V10 (mi' := mX8_number) (y := yX8_number) eX8_waste_2 (xw_5 lRX8_65 wy_X8_number) rfl ⟨wd_X8_number, by decide, by decide⟩ (by decide) (fun _ => rfl) rfl (Nat.le_of_ble_eq_true rfl) rfl (r_X8_number (i := 3) hR rfl (by decide) ?_)
  rw [show gl s C 3 = C 1 s 4 from rfl]
  refine xs_aload_0 eX8_waste_5 ?_
  refine xs_iload_2 eX8_waste_6 ?_
  refine xa_iconst eX8_waste_7 ?_
  refine xbi_V20 (mi' := mX8_of) (y := yX8_of) eX8_waste_8 (xw_5 lRX8_70 wy_X8_of) rfl ⟨wd_X8_of, by decide, by decide⟩ (by decide) (fun _ => rfl) rfl (Nat.le_of_ble_eq_true rfl) rfl (r_X8_of (p := h) (g := 0) hR rfl rfl hh hn8 (by decide) ?_)
  refine xa_min eX8_waste_11 lRX8_74 lm_min1 li_Math lm_min2 (by decide) (Nat.le_of_ble_eq_true rfl) rfl (by omega) (by omega) ?_
  refine xs_istore_3 eX8_waste_14 rfl ?_
  refine xs_aload_0 eX8_waste_15 ?_
  refine xs_iload_2 eX8_waste_16 ?_
  refine xa_iconst eX8_waste_17 ?_
  refine xs_iload_3 eX8_waste_18 ?_
  refine xa_ineg eX8_waste_19 ?_
  refine xbv_V30 (mi' := mX8_add) (y := yX8_add) eX8_waste_20 (xw_5 lRX8_210 wy_X8_add) rfl ⟨wd_X8_add, by decide, by decide⟩ (by decide) (fun _ => rfl) rfl (Nat.le_of_ble_eq_true rfl) rfl (r_X8_add (p := h) (g := 0) hR rfl rfl (by omega) hn8 hN20 (by decide) (by omega) (by (try simp (decide := true) only [up_app, if_true, if_false, and_true, true_and, and_false, false_and, Nat.add_left_cancel_iff]); omega) (fun M1 hR1 => ?_))
  refine xs_aload_0 eX8_waste_23 ?_
  refine xs_iload_2 eX8_waste_24 ?_
  refine xa_bipush eX8_waste_25 (by decide) ?_
  refine xs_iload_3 eX8_waste_27 ?_
  refine xbv_V30 (mi' := mX8_add) (y := yX8_add) eX8_waste_28 (xw_5 lRX8_210 wy_X8_add) rfl ⟨wd_X8_add, by decide, by decide⟩ (by decide) (fun _ => rfl) rfl (Nat.le_of_ble_eq_true rfl) rfl (r_X8_add (p := h) (g := 10) hR1 rfl rfl (by omega) hn8 hN20 (by decide) (by omega) (by (try simp (decide := true) only [up_app, if_true, if_false, and_true, true_and, and_false, false_and, Nat.add_left_cancel_iff]); omega) (fun M2 hR2 => ?_))
  refine xs_aload_0 eX8_waste_31 ?_
  refine g_X8_0 eX8_waste_32 lRX8_7 ?_
  refine xa_bipush eX8_waste_35 (by decide) ?_
  refine xa_dup2 eX8_waste_37 rfl rfl ?_
  refine gar_31 eX8_waste_38 (by omega) (fun r38 => ?_)
  refine xs_iload_3 eX8_waste_39 ?_
  refine xa_i2l eX8_waste_40 (by omega) ?_
  refine xa_ladd eX8_waste_41 ?_
  refine pa_31 eX8_waste_42 (by decide) (by rw [stM_31, show (14 : Int).toNat = 14 from rfl, hR2.1 14 (by decide)]; show x64 (up _ 4 _ _ _ 1 s 6 + _); simp (decide := true) only [up_app, if_true, if_false, and_true, true_and, and_false, false_and, Nat.add_left_cancel_iff]; omega) ?_
  rw [stM_31, show (14 : Int).toNat = 14 from rfl, hR2.1 14 (by decide)]
  refine X_gu (i := 14) hR2 (by decide) (by decide) (fun M3 hR3 => ?_)
  have hR3 : Rel s n N (up (up (up C 4 (8 * s + h) 0 (C 4 (8 * s + h) 0 - xmin (C 1 s 4) (C 4 (8 * s + h) 0))) 4 (8 * s + h) 10 (C 4 (8 * s + h) 10 + xmin (C 1 s 4) (C 4 (8 * s + h) 0))) 1 s 6 (C 1 s 6 + xmin (C 1 s 4) (C 4 (8 * s + h) 0))) M3 := by
    have h9 := hR3
    rw [show ∀ X : xS, gl s X 14 = X 1 s 6 from fun _ => rfl] at h9
    simp (decide := true) only [up_app, if_true, if_false, and_true, true_and, and_false, false_and, Nat.add_left_cancel_iff] at h9
    exact h9
  refine xs_aload_0 eX8_waste_43 ?_
  refine xs_iload_1 eX8_waste_44 ?_
  refine xa_bipush eX8_waste_45 (by decide) ?_
  refine xa_iconst eX8_waste_47 ?_
  refine xbv_V30 (mi' := mX8_note) (y := yX8_note) eX8_waste_48 (xw_5 lRX8_238 wy_X8_note) rfl ⟨wd_X8_note, by decide, by decide⟩ (by decide) (fun _ => rfl) rfl (Nat.le_of_ble_eq_true rfl) rfl (r_X8_noteq (j := b) (g := 14) (q := 2) hR3 rfl rfl rfl hb hN20 (by decide) (by decide) (by decide) (by decide) (by decide) (by (try simp (decide := true) only [up_app, if_true, if_false, and_true, true_and, and_false, false_and, Nat.add_left_cancel_iff]); omega) (by rw [show (8 + 2 : Nat) = 10 from rfl]; (try simp (decide := true) only [up_app, if_true, if_false, and_true, true_and, and_false, false_and, Nat.add_left_cancel_iff]); omega) (fun M4 hR4 => ?_))
  exact xa_vret eX8_waste_51 rfl ⟨rfl, hq M4 (by have h9 := hR4; simp (decide := true) only [up_app, if_true, if_false, and_true, true_and, and_false, false_and, Nat.add_left_cancel_iff] at h9; exact h9)⟩
set_option maxHeartbeats 400000 in
theorem f_X8_use {w : xW} {S : xS} {B : String → xS → Prop} {A : xS → Prop} {s n N : Nat} {T : Int} {C : xS} {M : Nat → Int} {b : Nat} (hV : VS s n N T C) (hT : T ≤ 1000000) (hR : Rel s n N C M) (hb : bstT s C N = some b) (hq : ∀ M', Rel s n N (useS s n (32 * s + b) (decT s (some b) C)) M' → A (stM M' S)) : Kv w mX8_use yX8_use 0 0 [xp 30 0, xi (b : Int)] (stM M S) A B := by
  refine K.of rfl rfl rfl rfl (Nat.le_of_ble_eq_true rfl) rfl ?_
  have hn8 := hV.2.2.1
  have hN20 := hV.2.1
  have hl := bstT_lt hb
  have hbN := hl.1
  have hOb := hV.o hbN
  have hTb := hV.t hbN
  unfold OQ at hOb
  unfold TQ at hTb
  have ha : C 2 s 2 < C 10 (32 * s + b) 7 := hOb.2.2.2.2.2.2.2.2.2.2.2 hl.2
  obtain ⟨g, hg⟩ : ∃ g : Nat, C 10 (32 * s + b) 8 = (g : Int) := ⟨(C 10 (32 * s + b) 8).toNat, by omega⟩
  have hgn : g < n := by omega
  have ht := hV.1.2.2.1
  refine xs_aload_0 eX8_use_0 ?_
  refine xs_iload_1 eX8_use_1 ?_
  refine xa_bipush eX8_use_2 (by decide) ?_
  refine xbi_V20 (mi' := mX8_told0) (y := yX8_told0) eX8_use_4 (xw_5 lRX8_122 wy_X8_told0) rfl ⟨wd_X8_told0, by decide, by decide⟩ (by decide) (fun _ => rfl) rfl (Nat.le_of_ble_eq_true rfl) rfl (r_X8_told0j (j := b) (g := 8) hR rfl rfl hbN hN20 (Or.inr (Or.inr rfl)) ha ?_)
  rw [hg]
  refine xs_istore_2 eX8_use_7 rfl ?_
  refine xs_aload_0 eX8_use_8 ?_
  refine xs_iload_1 eX8_use_9 ?_
  refine xa_bipush eX8_use_10 (by decide) ?_
  refine xs_aload_0 eX8_use_12 ?_
  refine xs_iload_1 eX8_use_13 ?_
  refine xa_bipush eX8_use_14 (by decide) ?_
  refine xbi_V20 (mi' := mX8_told0) (y := yX8_told0) eX8_use_16 (xw_5 lRX8_122 wy_X8_told0) rfl ⟨wd_X8_told0, by decide, by decide⟩ (by decide) (fun _ => rfl) rfl (Nat.le_of_ble_eq_true rfl) rfl (r_X8_told0j (j := b) (g := 6) hR rfl rfl hbN hN20 (Or.inl rfl) ha ?_)
  refine xa_iconst eX8_use_19 ?_
  refine xa_isub eX8_use_20 ?_
  refine xbv_V30 (mi' := mX8_keep) (y := yX8_keep) eX8_use_21 (xw_5 lRX8_137 wy_X8_keep) rfl ⟨wd_X8_keep, by decide, by decide⟩ (by decide) (fun _ => rfl) rfl (Nat.le_of_ble_eq_true rfl) rfl (r_X8_keepL (j := b) hR rfl rfl hbN hN20 ha (by omega) (fun M1 hR1 => ?_))
  have hVD : VS s n N T (decT s (some b) C) := hV.dec hb
  have hgD : decT s (some b) C 10 (32 * s + b) 8 = (g : Int) := by unfold decT; show up _ 10 _ 6 _ 10 _ 8 = _; rw [up_f (by decide)]; exact hg
  have hR1 : Rel s n N (decT s (some b) C) M1 := hR1
  generalize decT s (some b) C = D at hVD hgD hR1 hq
  clear hV hR hOb hTb ha hl hg hb
  have hG := hVD.g
  have hPg := hVD.p hgn
  have hOb := hVD.o hbN
  unfold GQ at hG
  unfold PQ at hPg
  unfold OQ at hOb
  unfold useS at hq
  rw [hgD, Int.toNat_natCast] at hq
  refine xs_aload_0 eX8_use_24 ?_
  refine xs_iload_2 eX8_use_25 ?_
  refine xa_iconst eX8_use_26 ?_
  refine xbi_V20 (mi' := mX8_of) (y := yX8_of) eX8_use_27 (xw_5 lRX8_70 wy_X8_of) rfl ⟨wd_X8_of, by decide, by decide⟩ (by decide) (fun _ => rfl) rfl (Nat.le_of_ble_eq_true rfl) rfl (r_X8_of (p := g) (g := 1) hR1 rfl rfl hgn hn8 (by decide) ?_)
  refine xa_if_le (tgt := 56) eX8_use_30 (by decide) (by omega) (fun c30 => ?_) (fun c30 => ?_)
  · refine xs_aload_0 eX8_use_56 ?_
    refine xs_iload_2 eX8_use_57 ?_
    refine xbi_V10 (mi' := mX8_highestBidder) (y := yX8_highestBidder) eX8_use_58 (xw_5 lRX8_241 wy_X8_highestBidder) rfl ⟨wd_X8_highestBidder, by decide, by decide⟩ (by decide) (fun _ => rfl) rfl (Nat.le_of_ble_eq_true rfl) rfl (f_X8_highestBidder hVD hT hR1 hgn c30 (fun eb => ?_) (fun q eb => ?_))
    · refine xs_istore_3 eX8_use_61 rfl ?_
      refine xs_iload_3 eX8_use_62 ?_
      refine xa_iconst eX8_use_63 ?_
      refine xa_icmp_ne (tgt := 74) eX8_use_64 (by decide) (by decide) (by decide) (fun c64 => ?_) (fun c64 => ?_)
      · exact absurd rfl c64
      · refine xs_aload_0 eX8_use_67 ?_
        refine xs_iload_1 eX8_use_68 ?_
        refine xs_iload_2 eX8_use_69 ?_
        refine xbv_V20 (mi' := mX8_waste) (y := yX8_waste) eX8_use_70 (xw_5 lRX8_244 wy_X8_waste) rfl ⟨wd_X8_waste, by decide, by decide⟩ (by decide) (fun _ => rfl) rfl (Nat.le_of_ble_eq_true rfl) rfl (f_X8_waste hVD hT hR1 hgn hbN (fun M2 hR2 => ?_))
        exact xa_vret eX8_use_73 rfl ⟨rfl, hq M2 (by rw [if_neg (by omega), eb]; exact hR2)⟩
    · have hlq := hbdS_lt eb
      have hqn := hlq.1
      have hPq := hVD.p hqn
      unfold PQ at hPq
      have hqg : q ≠ g := fun e => by rw [e] at hlq; omega
      have hq1 : (q = g) = False := eq_false hqg
      have hq2 : (g = q) = False := eq_false (Ne.symm hqg)
      have hx := xmin_or 1000000 (D 4 (8 * s + g) 0 + D 4 (8 * s + q) 2)
      refine xs_istore_3 eX8_use_61 rfl ?_
      refine xs_iload_3 eX8_use_62 ?_
      refine xa_iconst eX8_use_63 ?_
      refine xa_icmp_ne (tgt := 74) eX8_use_64 (by decide) (by omega) (by decide) (fun c64 => ?_) (fun c64 => ?_)
      · refine xs_aload_0 eX8_use_74 ?_
        refine xs_iload_3 eX8_use_75 ?_
        refine xa_iconst eX8_use_76 ?_
        refine xbi_V20 (mi' := mX8_of) (y := yX8_of) eX8_use_77 (xw_5 lRX8_70 wy_X8_of) rfl ⟨wd_X8_of, by decide, by decide⟩ (by decide) (fun _ => rfl) rfl (Nat.le_of_ble_eq_true rfl) rfl (r_X8_of (p := q) (g := 2) hR1 rfl rfl hqn hn8 (by decide) ?_)
        refine xs_istore_4 eX8_use_80 rfl ?_
        refine xs_aload_0 eX8_use_82 ?_
        refine xs_iload_3 eX8_use_83 ?_
        refine xa_iconst eX8_use_84 ?_
        refine xs_iload_4 eX8_use_85 ?_
        refine xa_ineg eX8_use_87 ?_
        refine xbv_V30 (mi' := mX8_add) (y := yX8_add) eX8_use_88 (xw_5 lRX8_210 wy_X8_add) rfl ⟨wd_X8_add, by decide, by decide⟩ (by decide) (fun _ => rfl) rfl (Nat.le_of_ble_eq_true rfl) rfl (r_X8_add (p := q) (g := 0) hR1 rfl rfl (by omega) hn8 hN20 (by decide) (by omega) (by (try simp (decide := true) only [up_app, hq1, hq2, if_true, if_false, and_true, true_and, and_false, false_and, Nat.add_left_cancel_iff]); omega) (fun M2 hR2 => ?_))
        refine xs_aload_0 eX8_use_91 ?_
        refine xs_iload_3 eX8_use_92 ?_
        refine xa_bipush eX8_use_93 (by decide) ?_
        refine xs_iload_4 eX8_use_95 ?_
        refine xbv_V30 (mi' := mX8_add) (y := yX8_add) eX8_use_97 (xw_5 lRX8_210 wy_X8_add) rfl ⟨wd_X8_add, by decide, by decide⟩ (by decide) (fun _ => rfl) rfl (Nat.le_of_ble_eq_true rfl) rfl (r_X8_add (p := q) (g := 9) hR2 rfl rfl (by omega) hn8 hN20 (by decide) (by omega) (by (try simp (decide := true) only [up_app, hq1, hq2, if_true, if_false, and_true, true_and, and_false, false_and, Nat.add_left_cancel_iff]); omega) (fun M3 hR3 => ?_))
        refine xs_aload_0 eX8_use_100 ?_
        refine xs_iload_3 eX8_use_101 ?_
        refine xa_iconst eX8_use_102 ?_
        refine xa_iconst eX8_use_103 ?_
        refine xbv_V30 (mi' := mX8_add) (y := yX8_add) eX8_use_104 (xw_5 lRX8_210 wy_X8_add) rfl ⟨wd_X8_add, by decide, by decide⟩ (by decide) (fun _ => rfl) rfl (Nat.le_of_ble_eq_true rfl) rfl (r_X8_add (p := q) (g := 1) hR3 rfl rfl (by omega) hn8 hN20 (by decide) (by omega) (by (try simp (decide := true) only [up_app, hq1, hq2, if_true, if_false, and_true, true_and, and_false, false_and, Nat.add_left_cancel_iff]); omega) (fun M4 hR4 => ?_))
        refine xs_aload_0 eX8_use_107 ?_
        refine xs_iload_3 eX8_use_108 ?_
        refine xa_bipush eX8_use_109 (by decide) ?_
        refine xa_iconst eX8_use_111 ?_
        refine xbv_V30 (mi' := mX8_add) (y := yX8_add) eX8_use_112 (xw_5 lRX8_210 wy_X8_add) rfl ⟨wd_X8_add, by decide, by decide⟩ (by decide) (fun _ => rfl) rfl (Nat.le_of_ble_eq_true rfl) rfl (r_X8_add (p := q) (g := 6) hR4 rfl rfl (by omega) hn8 hN20 (by decide) (by omega) (by (try simp (decide := true) only [up_app, hq1, hq2, if_true, if_false, and_true, true_and, and_false, false_and, Nat.add_left_cancel_iff]); omega) (fun M5 hR5 => ?_))
        refine xs_aload_0 eX8_use_115 ?_
        refine xs_iload_2 eX8_use_116 ?_
        refine xs_iload_4 eX8_use_117 ?_
        refine xbv_V20 (mi' := mX8_earn) (y := yX8_earn) eX8_use_119 (xw_5 lRX8_116 wy_X8_earn) rfl ⟨wd_X8_earn, by decide, by decide⟩ (by decide) (fun _ => rfl) rfl (Nat.le_of_ble_eq_true rfl) rfl (r_X8_earn (p := g) hR5 rfl hgn hn8 hN20 (by (try simp (decide := true) only [up_app, hq1, hq2, if_true, if_false, and_true, true_and, and_false, false_and, Nat.add_left_cancel_iff]); omega) (fun M6 hR6 => ?_))
        refine xs_aload_0 eX8_use_122 ?_
        refine xs_iload_2 eX8_use_123 ?_
        refine xa_bipush eX8_use_124 (by decide) ?_
        refine xs_iload_4 eX8_use_126 ?_
        refine xbv_V30 (mi' := mX8_add) (y := yX8_add) eX8_use_128 (xw_5 lRX8_210 wy_X8_add) rfl ⟨wd_X8_add, by decide, by decide⟩ (by decide) (fun _ => rfl) rfl (Nat.le_of_ble_eq_true rfl) rfl (r_X8_add (p := g) (g := 8) hR6 rfl rfl (by omega) hn8 hN20 (by decide) (by omega) (by (try simp (decide := true) only [up_app, hq1, hq2, if_true, if_false, and_true, true_and, and_false, false_and, Nat.add_left_cancel_iff]); omega) (fun M7 hR7 => ?_))
        refine xs_aload_0 eX8_use_131 ?_
        refine xs_iload_1 eX8_use_132 ?_
        refine xa_bipush eX8_use_133 (by decide) ?_
        refine xa_iconst eX8_use_135 ?_
        refine xbv_V30 (mi' := mX8_note) (y := yX8_note) eX8_use_136 (xw_5 lRX8_238 wy_X8_note) rfl ⟨wd_X8_note, by decide, by decide⟩ (by decide) (fun _ => rfl) rfl (Nat.le_of_ble_eq_true rfl) rfl (r_X8_noteq (j := b) (g := 13) (q := 1) hR7 rfl rfl rfl hbN hN20 (by decide) (by decide) (by decide) (by decide) (by decide) (by (try simp (decide := true) only [up_app, hq1, hq2, if_true, if_false, and_true, true_and, and_false, false_and, Nat.add_left_cancel_iff]); omega) (by rw [show (8 + 1 : Nat) = 9 from rfl]; (try simp (decide := true) only [up_app, hq1, hq2, if_true, if_false, and_true, true_and, and_false, false_and, Nat.add_left_cancel_iff]); omega) (fun M8 hR8 => ?_))
        exact xa_vret eX8_use_139 rfl ⟨rfl, hq M8 (by have h9 := hR8; simp (decide := true) only [up_app, hq1, hq2, if_true, if_false, and_true, true_and, and_false, false_and, Nat.add_left_cancel_iff] at h9; rw [if_neg (by omega), eb]; unfold sltS slcS; rw [up_comm (f := 9) (f' := 1) (fun z => absurd z.2.2 (by decide)), up_comm (f := 9) (f' := 6) (fun z => absurd z.2.2 (by decide))] at h9; exact h9)⟩
      · exact absurd c64 (by omega)
  · refine xs_aload_0 eX8_use_33 ?_
    refine xs_iload_2 eX8_use_34 ?_
    refine xa_iconst eX8_use_35 ?_
    refine xa_iconst eX8_use_36 ?_
    refine xbv_V30 (mi' := mX8_add) (y := yX8_add) eX8_use_37 (xw_5 lRX8_210 wy_X8_add) rfl ⟨wd_X8_add, by decide, by decide⟩ (by decide) (fun _ => rfl) rfl (Nat.le_of_ble_eq_true rfl) rfl (r_X8_add (p := g) (g := 1) hR1 rfl rfl (by omega) hn8 hN20 (by decide) (by omega) (by (try simp (decide := true) only [up_app, if_true, if_false, and_true, true_and, and_false, false_and, Nat.add_left_cancel_iff]); omega) (fun M2 hR2 => ?_))
    refine xs_aload_0 eX8_use_40 ?_
    refine xs_iload_2 eX8_use_41 ?_
    refine xa_iconst eX8_use_42 ?_
    refine xa_iconst eX8_use_43 ?_
    refine xbv_V30 (mi' := mX8_add) (y := yX8_add) eX8_use_44 (xw_5 lRX8_210 wy_X8_add) rfl ⟨wd_X8_add, by decide, by decide⟩ (by decide) (fun _ => rfl) rfl (Nat.le_of_ble_eq_true rfl) rfl (r_X8_add (p := g) (g := 5) hR2 rfl rfl (by omega) hn8 hN20 (by decide) (by omega) (by (try simp (decide := true) only [up_app, if_true, if_false, and_true, true_and, and_false, false_and, Nat.add_left_cancel_iff]); omega) (fun M3 hR3 => ?_))
    refine xs_aload_0 eX8_use_47 ?_
    refine xs_iload_1 eX8_use_48 ?_
    refine xa_bipush eX8_use_49 (by decide) ?_
    refine xa_iconst eX8_use_51 ?_
    refine xbv_V30 (mi' := mX8_note) (y := yX8_note) eX8_use_52 (xw_5 lRX8_238 wy_X8_note) rfl ⟨wd_X8_note, by decide, by decide⟩ (by decide) (fun _ => rfl) rfl (Nat.le_of_ble_eq_true rfl) rfl (r_X8_noteq (j := b) (g := 12) (q := 0) hR3 rfl rfl rfl hbN hN20 (by decide) (by decide) (by decide) (by decide) (by decide) (by (try simp (decide := true) only [up_app, if_true, if_false, and_true, true_and, and_false, false_and, Nat.add_left_cancel_iff]); omega) (by rw [show (8 + 0 : Nat) = 8 from rfl]; (try simp (decide := true) only [up_app, if_true, if_false, and_true, true_and, and_false, false_and, Nat.add_left_cancel_iff]); omega) (fun M4 hR4 => ?_))
    exact xa_vret eX8_use_55 rfl ⟨rfl, hq M4 (by have h9 := hR4; simp (decide := true) only [up_app, if_true, if_false, and_true, true_and, and_false, false_and, Nat.add_left_cancel_iff] at h9; rw [if_pos (by omega)]; unfold usdS; exact h9)⟩
set_option maxHeartbeats 400000 in
theorem f_X8_tick {w : xW} {S : xS} {B : String → xS → Prop} {A : xS → Prop} {s n N : Nat} {T : Int} {C : xS} {M : Nat → Int} (hV : VS s n N T C) (hT : T ≤ 900000) (hR : Rel s n N C M) (hq : ∀ M', Rel s n N (tckS s n N C) M' → A (stM M' S)) : Kv w mX8_tick yX8_tick 0 0 [xp 30 0] (stM M S) A B := by
  refine K.of rfl rfl rfl rfl (Nat.le_of_ble_eq_true rfl) rfl ?_
  have hV1 := hV.arr (i := n)
  have hV2 := hV1.rel
  have tl : ∀ (a1 : xV) (D : xS) (Md : Nat → Int), xcat2 a1 = false → VS s n N (T + 2) D → Rel s n N D Md → (∀ M', Rel s n N (endS s N D) M' → A (stM M' S)) → X w mX8_tick (xTG w (fun v S' => v = none ∧ A S') B) 0 0 30 [xp 30 0, a1, xj, xj] [] (stM Md S) := by
    intro a1 D Md ha1 hV4 hRd hq
    have hN20 := hV4.2.1
    have htD := hV4.1.2.2.1
    have lp : ∀ i : Nat, i ≤ N → ∀ (a3 : xV) (Mi : Nat → Int) (_ : RelE s n N i D Mi), X w mX8_tick (xTG w (fun v S' => v = none ∧ A S') B) 0 0 42 [xp 30 0, a1, xi (i : Int), a3] [] (stM Mi S) := by
      refine nloop N (fun i hi ih a3 Mi hE => ?_)
      have h2 : Mi 2 = (N : Int) := by rw [hE.1.2.2 2 (by decide) (by decide) (by decide)]; exact hV4.1.1
      have h0 : Mi 0 = D 2 s 2 + 1 := hE.1.1
      have hPi : i < N → PR (D 2 s 2) (D 10 (32 * s + i)) (fun f => Mi (103 + 18 * i + f)) := fun z => hE.2.2.2.1 i (Nat.le_refl _) z
      unfold PR at hPi
      dsimp only at hPi
      have h16 : i < N → Mi (103 + 18 * i + 16) = D 10 (32 * s + i) 16 := fun z => (hE.2.2.2.1 i (Nat.le_refl _) z).1 16 (by decide) (by decide) (by decide) (by decide)
      have hTi : i < N → TQ (D 2 s 2) (T + 2) (D 10 (32 * s + i)) := fun z => hV4.t z
      unfold TQ at hTi
      have h11 := hE.1.2.1
      have hgD := hV4.g
      unfold GQ at hgD
      have hsm := sm_range (g := fun j => b2i (0 < D 10 (32 * s + j) 6 ∧ D 10 (32 * s + j) 7 ≤ D 2 s 2 + 1)) (lo := 0) (hi := 1) (n := i) (fun j hj => by rcases b2i_01 (0 < D 10 (32 * s + j) 6 ∧ D 10 (32 * s + j) 7 ≤ D 2 s 2 + 1) with e | e <;> rw [e] <;> decide)
      refine xs_iload_2 eX8_tick_42 ?_
      refine xa_i2l eX8_tick_43 (by omega) ?_
      refine xs_aload_0 eX8_tick_44 ?_
      refine g_X8_0 eX8_tick_45 lRX8_7 ?_
      refine xa_iconst eX8_tick_48 ?_
      refine gar_31 eX8_tick_49 (by omega) (fun r49 => ?_)
      try simp (decide := true) only [h2, h0, stM_31, show (0 : Int).toNat = 0 from rfl, show (1 : Int).toNat = 1 from rfl, show (2 : Int).toNat = 2 from rfl, show (3 : Int).toNat = 3 from rfl, show (4 : Int).toNat = 4 from rfl, show (5 : Int).toNat = 5 from rfl, show (6 : Int).toNat = 6 from rfl, show (7 : Int).toNat = 7 from rfl, show (8 : Int).toNat = 8 from rfl, show (9 : Int).toNat = 9 from rfl, show (10 : Int).toNat = 10 from rfl, show (11 : Int).toNat = 11 from rfl, show (12 : Int).toNat = 12 from rfl, show (13 : Int).toNat = 13 from rfl, show (14 : Int).toNat = 14 from rfl, Int.toNat_natCast] at r49 ⊢
      refine xa_lcmp eX8_tick_50 (by omega) (by omega) ?_
      refine xa_ifc_ge (tgt := 117) eX8_tick_51 (by decide) (fun c51 => ?_) (fun c51 => ?_)
      · exact xa_vret eX8_tick_117 rfl ⟨rfl, hq Mi (by rw [show N = i by omega] at hE ⊢; exact hE.fin)⟩
      · refine xs_aload_0 eX8_tick_54 ?_
        refine xs_iload_2 eX8_tick_55 ?_
        refine xa_bipush eX8_tick_56 (by decide) ?_
        refine xbi_V20 (mi' := mX8_told0) (y := yX8_told0) eX8_tick_58 (xw_5 lRX8_122 wy_X8_told0) rfl ⟨wd_X8_told0, by decide, by decide⟩ (by decide) (fun _ => rfl) rfl (Nat.le_of_ble_eq_true rfl) rfl (k_X8_told0 (p := i) (g := 17) rfl rfl (by omega) (by decide) ?_)
        rw [stM_31]
        refine xa_iconst eX8_tick_61 ?_
        refine xa_icmp_ne (tgt := 87) eX8_tick_62 (by decide) (by omega) (by decide) (fun c62 => ?_) (fun c62 => ?_)
        · refine xa_iconst eX8_tick_87 ?_
          refine xs_istore_3 eX8_tick_88 rfl ?_
          refine xs_iload_3 eX8_tick_89 ?_
          refine xa_if_eq (tgt := 111) eX8_tick_90 (by decide) (by decide) (fun c90 => ?_) (fun c90 => ?_)
          · refine xs_iinc_2 eX8_tick_111 ha1 ?_
            refine xa_goto (tgt := 42) eX8_tick_114 (by decide) ?_
            exact ih (i + 1) (by omega) (by omega) _ Mi (hE.skip (by omega) (by omega) (by omega))
          · exact absurd rfl c90
        · refine xs_aload_0 eX8_tick_65 ?_
          refine xs_iload_2 eX8_tick_66 ?_
          refine xa_bipush eX8_tick_67 (by decide) ?_
          refine xbi_V20 (mi' := mX8_told0) (y := yX8_told0) eX8_tick_69 (xw_5 lRX8_122 wy_X8_told0) rfl ⟨wd_X8_told0, by decide, by decide⟩ (by decide) (fun _ => rfl) rfl (Nat.le_of_ble_eq_true rfl) rfl (k_X8_told0 (p := i) (g := 7) rfl rfl (by omega) (by decide) ?_)
          rw [stM_31]
          refine xa_i2l eX8_tick_72 (by omega) ?_
          refine xs_aload_0 eX8_tick_73 ?_
          refine g_X8_0 eX8_tick_74 lRX8_7 ?_
          refine xa_iconst eX8_tick_77 ?_
          refine gar_31 eX8_tick_78 (by omega) (fun r78 => ?_)
          try simp (decide := true) only [h2, h0, stM_31, show (0 : Int).toNat = 0 from rfl, show (1 : Int).toNat = 1 from rfl, show (2 : Int).toNat = 2 from rfl, show (3 : Int).toNat = 3 from rfl, show (4 : Int).toNat = 4 from rfl, show (5 : Int).toNat = 5 from rfl, show (6 : Int).toNat = 6 from rfl, show (7 : Int).toNat = 7 from rfl, show (8 : Int).toNat = 8 from rfl, show (9 : Int).toNat = 9 from rfl, show (10 : Int).toNat = 10 from rfl, show (11 : Int).toNat = 11 from rfl, show (12 : Int).toNat = 12 from rfl, show (13 : Int).toNat = 13 from rfl, show (14 : Int).toNat = 14 from rfl, Int.toNat_natCast] at r78 ⊢
          refine xa_lcmp eX8_tick_79 (by omega) (by omega) ?_
          refine xa_ifc_ne (tgt := 87) eX8_tick_80 (by decide) (fun c80 => ?_) (fun c80 => ?_)
          · refine xa_iconst eX8_tick_87 ?_
            refine xs_istore_3 eX8_tick_88 rfl ?_
            refine xs_iload_3 eX8_tick_89 ?_
            refine xa_if_eq (tgt := 111) eX8_tick_90 (by decide) (by decide) (fun c90 => ?_) (fun c90 => ?_)
            · refine xs_iinc_2 eX8_tick_111 ha1 ?_
              refine xa_goto (tgt := 42) eX8_tick_114 (by decide) ?_
              exact ih (i + 1) (by omega) (by omega) _ Mi (hE.skip (by omega) (by omega) (by omega))
            · exact absurd rfl c90
          · refine xa_iconst eX8_tick_83 ?_
            refine xa_goto (tgt := 88) eX8_tick_84 (by decide) ?_
            refine xs_istore_3 eX8_tick_88 rfl ?_
            refine xs_iload_3 eX8_tick_89 ?_
            refine xa_if_eq (tgt := 111) eX8_tick_90 (by decide) (by decide) (fun c90 => ?_) (fun c90 => ?_)
            · exact absurd c90 (by decide)
            · refine xs_aload_0 eX8_tick_93 ?_
              refine xs_iload_2 eX8_tick_94 ?_
              refine xa_bipush eX8_tick_95 (by decide) ?_
              refine xbi_V20 (mi' := mX8_told0) (y := yX8_told0) eX8_tick_97 (xw_5 lRX8_122 wy_X8_told0) rfl ⟨wd_X8_told0, by decide, by decide⟩ (by decide) (fun _ => rfl) rfl (Nat.le_of_ble_eq_true rfl) rfl (k_X8_told0 (p := i) (g := 6) rfl rfl (by omega) (by decide) ?_)
              rw [stM_31]
              refine xa_if_le (tgt := 111) eX8_tick_100 (by decide) (by omega) (fun c100 => ?_) (fun c100 => ?_)
              · refine xs_iinc_2 eX8_tick_111 ha1 ?_
                refine xa_goto (tgt := 42) eX8_tick_114 (by decide) ?_
                exact ih (i + 1) (by omega) (by omega) _ Mi (hE.skip (by omega) (by omega) (by omega))
              · refine xs_aload_0 eX8_tick_103 ?_
                refine xs_iload_2 eX8_tick_104 ?_
                refine xa_bipush eX8_tick_105 (by decide) ?_
                refine xa_iconst eX8_tick_107 ?_
                refine xbv_V30 (mi' := mX8_note) (y := yX8_note) eX8_tick_108 (xw_5 lRX8_238 wy_X8_note) rfl ⟨wd_X8_note, by decide, by decide⟩ (by decide) (fun _ => rfl) rfl (Nat.le_of_ble_eq_true rfl) rfl (k_X8_note (p := i) (g := 16) (q := 5) rfl rfl rfl (by omega) (by decide) (by decide) (by rw [stM_31]; omega) (by rw [stM_31, show (6 + 5 : Nat) = 11 from rfl]; omega) ?_)
                rw [up_stM, up_stM, stM_31]
                refine xs_iinc_2 eX8_tick_111 ha1 ?_
                refine xa_goto (tgt := 42) eX8_tick_114 (by decide) ?_
                exact ih (i + 1) (by omega) (by omega) _ _ (hE.miss (by omega) hN20 (by omega))
    refine xs_aload_0 eX8_tick_30 ?_
    refine g_X8_0 eX8_tick_31 lRX8_7 ?_
    refine xa_iconst eX8_tick_34 ?_
    refine xa_dup2 eX8_tick_35 rfl rfl ?_
    refine gar_31 eX8_tick_36 (by decide) (fun r36 => ?_)
    refine xa_lconst1 eX8_tick_37 ?_
    refine xa_ladd eX8_tick_38 ?_
    refine pa_31 eX8_tick_39 (by decide) (by rw [stM_31, show (0 : Int).toNat = 0 from rfl, hRd.1 0 (by decide)]; show x64 (D 2 s 2 + 1); omega) ?_
    rw [stM_31, show (0 : Int).toNat = 0 from rfl, hRd.1 0 (by decide), show gl s D 0 = D 2 s 2 from rfl, up_stM]
    refine xa_iconst eX8_tick_40 ?_
    refine xs_istore_2 eX8_tick_41 ha1 ?_
    exact lp 0 (by omega) xj _ (RelE.zero hRd)
  refine xs_aload_0 eX8_tick_0 ?_
  refine xbv_V00 (mi' := mX8_arrive) (y := yX8_arrive) eX8_tick_1 (xw_5 lRX8_247 wy_X8_arrive) rfl ⟨wd_X8_arrive, by decide, by decide⟩ (by decide) (fun _ => rfl) rfl (Nat.le_of_ble_eq_true rfl) rfl (f_X8_arrive hV (by omega) hR (fun M1 hR1 => ?_))
  refine xs_aload_0 eX8_tick_4 ?_
  refine xbv_V00 (mi' := mX8_releaseAll) (y := yX8_releaseAll) eX8_tick_5 (xw_5 lRX8_250 wy_X8_releaseAll) rfl ⟨wd_X8_releaseAll, by decide, by decide⟩ (by decide) (fun _ => rfl) rfl (Nat.le_of_ble_eq_true rfl) rfl (f_X8_releaseAll hV1 (by omega) hR1 (fun M2 hR2 => ?_))
  refine xs_aload_0 eX8_tick_8 ?_
  refine xbi_V00 (mi' := mX8_earliest) (y := yX8_earliest) eX8_tick_9 (xw_5 lRX8_253 wy_X8_earliest) rfl ⟨wd_X8_earliest, by decide, by decide⟩ (by decide) (fun _ => rfl) rfl (Nat.le_of_ble_eq_true rfl) rfl (f_X8_earliest hV2 (by omega) hR2 (fun e5 => ?_) (fun b e5 => ?_))
  · have hV3 : VS s n N (T + 2) (freS s n (relT s N (arrS s n C))) := by have h9 := hV2.fre; rw [show T + 2 = T + 1 + 1 by omega]; exact h9
    refine xs_istore_1 eX8_tick_12 rfl ?_
    refine xs_iload_1 eX8_tick_13 ?_
    refine xa_iconst eX8_tick_14 ?_
    refine xa_icmp_ne (tgt := 25) eX8_tick_15 (by decide) (by decide) (by decide) (fun c15 => ?_) (fun c15 => ?_)
    · exact absurd rfl c15
    · refine xs_aload_0 eX8_tick_18 ?_
      refine xbv_V00 (mi' := mX8_useFree) (y := yX8_useFree) eX8_tick_19 (xw_5 lRX8_256 wy_X8_useFree) rfl ⟨wd_X8_useFree, by decide, by decide⟩ (by decide) (fun _ => rfl) rfl (Nat.le_of_ble_eq_true rfl) rfl (f_X8_useFree hV2 (by omega) hR2 (fun M3 hR3 => ?_))
      refine xa_goto (tgt := 30) eX8_tick_22 (by decide) ?_
      refine tl _ _ M3 rfl hV3 hR3 (fun M4 hR4 => hq M4 ?_)
      unfold tckS actS
      rw [e5]
      exact hR4
  · have hbl := bstT_lt e5
    have hN20 := hV.2.1
    have hV3 : VS s n N (T + 2) (useS s n (32 * s + b) (decT s (some b) (relT s N (arrS s n C)))) := by
      have h9 := hV2.act
      unfold actS at h9
      rw [e5] at h9
      rw [show T + 2 = T + 1 + 1 by omega]; exact h9
    refine xs_istore_1 eX8_tick_12 rfl ?_
    refine xs_iload_1 eX8_tick_13 ?_
    refine xa_iconst eX8_tick_14 ?_
    refine xa_icmp_ne (tgt := 25) eX8_tick_15 (by decide) (by omega) (by decide) (fun c15 => ?_) (fun c15 => ?_)
    · refine xs_aload_0 eX8_tick_25 ?_
      refine xs_iload_1 eX8_tick_26 ?_
      refine xbv_V10 (mi' := mX8_use) (y := yX8_use) eX8_tick_27 (xw_5 lRX8_259 wy_X8_use) rfl ⟨wd_X8_use, by decide, by decide⟩ (by decide) (fun _ => rfl) rfl (Nat.le_of_ble_eq_true rfl) rfl (f_X8_use hV2 (by omega) hR2 e5 (fun M3 hR3 => ?_))
      refine tl _ _ M3 rfl hV3 hR3 (fun M4 hR4 => hq M4 ?_)
      unfold tckS actS
      rw [e5]
      exact hR4
    · exact absurd c15 (by omega)
