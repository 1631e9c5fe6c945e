/-! PromiseMarket$Sales; rows as functions -/
def cpyV (u s : Nat) (S : xS) : xS := fun k j f => if k = 25 ∧ j = s ∧ f < 64 then S 25 u f else S k j f
theorem ln_ac : Cond.native arraycopyName ∈ xtb := xtb_in (i := 910) (by decide +kernel) (by decide +kernel)
theorem ls_ac : Cond.static arraycopyName ∈ xtb := xtb_in (i := 909) (by decide +kernel) (by decide +kernel)
/-- the copy of a whole array of 64 ints -/
theorem xa_cpy64 {w : xW} {mi : xM} {TG : xT} {k n pc pc' u z idx : Nat} {L : List xV} {S : xS} (h : xd mi.2.1 pc (.invokestatic idx) 3 pc') (hw : Cond.methodLink mi.1 idx arraycopyName ∈ xtb) (hfr : 1 ≤ mi.2.2.2.2.2.1) (hlo : nativeFrameWords "java/lang/System" "arraycopy" 5 + 11 ≤ mi.2.2.2.2.2.2)
    (kk : X w mi TG k n pc' L [] (cpyV u z S)) : X w mi TG k n pc L [xi 64, xi 0, xp 25 z, xi 0, xp 25 u] S := by
  obtain ⟨hd, rfl⟩ := h
  intro p l e R s m args below meth c H locs cells slots MC MS ls hC hB hR hS hl hL hst
  have hts := hC.2.2.2.2.2.1
  have hz : xval 25 z = true := (xok_cons (xok_cons (xok_cons hst).2).2).1
  have hu : xval 25 u = true := (xok_cons (xok_cons (xok_cons (xok_cons (xok_cons hst).2).2).2).2).1
  obtain ⟨i, -, hi⟩ := xwl_at hu (by decide)
  obtain ⟨i2, hi0, hi2⟩ := xwl_at hz (by decide)
  refine va_copyi (f := fun f => Int32.ofInt (S 25 u f)) (g := fun f => Int32.ofInt (S 25 z f)) (D := w.2.1) (cl := vwCl) (ws := xwl w S) (tys := xtys w) hC.1 hC.2.1 (by rw [hl.2.1]; exact hC.2.2.2.1) hC.2.2.2.2.1 (hts _ hw) (hts _ ln_ac) (hts _ ls_ac) (hts _ li_System) hC.2.2.2.2.2.2.2.2.2.2.1 hR.1 hR.2.1 hS i i2 0 0 (hi w S) (hi2 w S) rfl rfl rfl (sp := 0) (dp := 0) (n := 64) (by decide) (by decide) (by decide) (by decide) (by decide) (fun _ _ => rfl) (Nat.le_trans hfr hC.2.2.2.2.2.2.2.2.1.1) (Nat.le_trans (by show 0 + _ ≤ _; omega) hC.2.2.2.2.2.2.2.2.1.2) hd (fun H1 locs1 hP1 hD1 hS1 => ?_)
  have e9 : (Sum.inl (w.2.2.1 0, (64, .inl (va_cpy (fun f => Int32.ofInt (S 25 u f)) (fun f => Int32.ofInt (S 25 z f)) (0 : Int32).toNatClampNeg (0 : Int32).toNatClampNeg (64 : Int32).toNatClampNeg))) : va_E) = xce w 25 z (cpyV u z S 25 z) := by
    refine congrArg (fun q => (Sum.inl (w.2.2.1 0, (64, .inl q)) : va_E)) ?_
    funext q
    show (if 0 ≤ q ∧ q < 0 + 64 then Int32.ofInt (S 25 u (0 + (q - 0))) else Int32.ofInt (S 25 z q)) = Int32.ofInt (cpyV u z S 25 z q)
    unfold cpyV
    by_cases h9 : q < 64
    · rw [if_pos (by omega), if_pos ⟨rfl, rfl, h9⟩, Nat.zero_add, Nat.sub_zero]
    · rw [if_neg (by omega), if_neg (by omega)]
  rw [e9] at hP1 hD1
  refine kk p l e R s m args below meth c H1 locs1 cells slots MC MS ls hC hB (xRep.upd hi0 (fun k' j' h9 => ?_) ?_ hP1 hD1) hS1 hl hL (fun v hv => nomatch hv)
  · funext f; unfold cpyV; rw [if_neg (by omega)]
  · refine ⟨fun k j f => ?_, fun k j f hl => ?_⟩
    · unfold cpyV; split
      · exact hR.2.2.1 25 u f
      · exact hR.2.2.1 k j f
    · unfold cpyV; split
      · rename_i h9; exact hR.2.2.2 25 u f rfl
      · exact hR.2.2.2 k j f hl
set_option maxHeartbeats 4000000 in
theorem k_X2_copyFrom {w : xW} {S : xS} {B : String → xS → Prop} {A : xS → Prop} {s u : Nat} (hne : s ≠ u) (hq : A (up (up (cpyV u s S) 5 s 1 (S 5 u 1)) 5 s 2 (S 5 u 2))) : Kv w mX2_copyFrom yX2_copyFrom 0 0 [xp 5 s, xp 5 u] S A B := by
  refine K.of rfl rfl rfl rfl (Nat.le_of_ble_eq_true rfl) rfl ?_
  have hsu : (u = s) = False := eq_false (Ne.symm hne)
  have ev1 : cpyV u s S 5 u 1 = S 5 u 1 := by unfold cpyV; rw [if_neg (by omega)]
  have ev2 : cpyV u s S 5 u 2 = S 5 u 2 := by unfold cpyV; rw [if_neg (by omega)]
  refine xs_aload_1 eX2_copyFrom_0 ?_
  refine g_X2_0 eX2_copyFrom_1 lRX2_11 ?_
  refine xa_iconst eX2_copyFrom_4 ?_
  refine xs_aload_0 eX2_copyFrom_5 ?_
  refine g_X2_0 eX2_copyFrom_6 lRX2_11 ?_
  refine xa_iconst eX2_copyFrom_9 ?_
  refine xa_bipush eX2_copyFrom_10 (by decide) ?_
  refine xa_cpy64 eX2_copyFrom_12 lRX2_22 (by decide) (by decide +kernel) ?_
  refine xs_aload_0 eX2_copyFrom_15 ?_
  refine xs_aload_1 eX2_copyFrom_16 ?_
  refine gr_X2_1 eX2_copyFrom_17 lRX2_15 (fun r17 => ?_)
  try simp (decide := true) only [ev1, ev2, hsu, up_app, if_true, if_false, and_true, true_and, and_false, false_and] at r17 ⊢
  refine p_X2_1 eX2_copyFrom_20 lRX2_15 (by omega) ?_
  refine xs_aload_0 eX2_copyFrom_23 ?_
  refine xs_aload_1 eX2_copyFrom_24 ?_
  refine gr_X2_2 eX2_copyFrom_25 lRX2_19 (fun r25 => ?_)
  try simp (decide := true) only [ev1, ev2, hsu, up_app, if_true, if_false, and_true, true_and, and_false, false_and] at r25 ⊢
  refine p_X2_2 eX2_copyFrom_28 lRX2_19 (by omega) ?_
  exact xa_vret eX2_copyFrom_31 rfl ⟨rfl, hq⟩
set_option maxHeartbeats 4000000 in
theorem k_X2_pairOf {w : xW} {S : xS} {B : String → xS → Prop} {A : Int → xS → Prop} {a b : Int} (hq : A (a * 8 + b) S) : Ki w mX2_pairOf yX2_pairOf 0 0 [xi a, xi b] S A B := by
  refine K.of rfl rfl rfl rfl (Nat.le_of_ble_eq_true rfl) rfl ?_
  refine xs_iload_0 eX2_pairOf_0 ?_
  refine xa_bipush eX2_pairOf_1 (by decide) ?_
  refine xa_imul eX2_pairOf_3 ?_
  refine xs_iload_1 eX2_pairOf_4 ?_
  refine xa_iadd eX2_pairOf_5 ?_
  exact xa_iret eX2_pairOf_6 rfl ⟨_, rfl, hq⟩
set_option maxHeartbeats 4000000 in
theorem k_X2_add {w : xW} {S : xS} {B : String → xS → Prop} {A : xS → Prop} {s a b : Nat} {p : Int} (ha : a < 8) (hb : b < 8) (h1 : xr (S 25 s (8 * a + b) + 1)) (h2 : xr (S 5 s 1 + 1)) (h3 : xr (S 5 s 2 + p)) (hq : A (up (up (up S 25 s (8 * a + b) (S 25 s (8 * a + b) + 1)) 5 s 1 (S 5 s 1 + 1)) 5 s 2 (S 5 s 2 + p))) : Kv w mX2_add yX2_add 0 0 [xp 5 s, xi (a : Int), xi (b : Int), xi p] S A B := by
  refine K.of rfl rfl rfl rfl (Nat.le_of_ble_eq_true rfl) rfl ?_
  rw [show 8 * a + b = ((a : Int) * 8 + (b : Int)).toNat by omega] at h1 hq
  refine xs_iload_1 eX2_add_0 ?_
  refine xs_iload_2 eX2_add_1 ?_
  refine xbi_S20 (mi' := mX2_pairOf) (y := yX2_pairOf) eX2_add_2 (xw_4 lRX2_28 wy_X2_pairOf) rfl rfl ⟨wd_X2_pairOf, by decide, by decide⟩ (Nat.le_of_ble_eq_true rfl) rfl (k_X2_pairOf ?_)
  refine xs_istore_4 eX2_add_5 rfl ?_
  refine xs_iload_4 eX2_add_7 ?_
  refine xa_if_lt (tgt := 50) eX2_add_9 (by decide) (by omega) (fun c9 => ?_) (fun c9 => ?_)
  · exact absurd c9 (by omega)
  · refine xs_iload_4 eX2_add_12 ?_
    refine xa_bipush eX2_add_14 (by decide) ?_
    refine xa_icmp_ge (tgt := 50) eX2_add_16 (by decide) (by omega) (by omega) (fun c16 => ?_) (fun c16 => ?_)
    · exact absurd c16 (by omega)
    · refine xs_aload_0 eX2_add_19 ?_
      refine g_X2_0 eX2_add_20 lRX2_11 ?_
      refine xs_iload_4 eX2_add_23 ?_
      refine xa_dup2 eX2_add_25 rfl rfl ?_
      refine gar_25 eX2_add_26 (by omega) (fun r26 => ?_)
      try simp (decide := true) only [up_app, if_true, if_false, and_true, true_and, and_false, false_and] at r26 ⊢
      refine xa_iconst eX2_add_27 ?_
      refine xa_iadd eX2_add_28 ?_
      refine pa_25 eX2_add_29 (by omega) (by omega) ?_
      refine xs_aload_0 eX2_add_30 ?_
      refine xa_dup eX2_add_31 rfl ?_
      refine gr_X2_1 eX2_add_32 lRX2_15 (fun r32 => ?_)
      try simp (decide := true) only [up_app, if_true, if_false, and_true, true_and, and_false, false_and] at r32 ⊢
      refine xa_iconst eX2_add_35 ?_
      refine xa_iadd eX2_add_36 ?_
      refine p_X2_1 eX2_add_37 lRX2_15 (by omega) ?_
      refine xs_aload_0 eX2_add_40 ?_
      refine xa_dup eX2_add_41 rfl ?_
      refine gr_X2_2 eX2_add_42 lRX2_19 (fun r42 => ?_)
      try simp (decide := true) only [up_app, if_true, if_false, and_true, true_and, and_false, false_and] at r42 ⊢
      refine xs_iload_3 eX2_add_45 ?_
      refine xa_iadd eX2_add_46 ?_
      refine p_X2_2 eX2_add_47 lRX2_19 (by omega) ?_
      exact xa_vret eX2_add_50 rfl ⟨rfl, hq⟩
set_option maxHeartbeats 4000000 in
theorem k_X2_countBetween {w : xW} {S : xS} {B : String → xS → Prop} {A : Int → xS → Prop} {s a b : Nat} (ha : a < 8) (hb : b < 8) (hq : A (S 25 s (8 * a + b)) S) : Ki w mX2_countBetween yX2_countBetween 0 0 [xp 5 s, xi (a : Int), xi (b : Int)] S A B := by
  refine K.of rfl rfl rfl rfl (Nat.le_of_ble_eq_true rfl) rfl ?_
  refine xs_iload_1 eX2_countBetween_0 ?_
  refine xs_iload_2 eX2_countBetween_1 ?_
  refine xbi_S20 (mi' := mX2_pairOf) (y := yX2_pairOf) eX2_countBetween_2 (xw_4 lRX2_28 wy_X2_pairOf) rfl rfl ⟨wd_X2_pairOf, by decide, by decide⟩ (Nat.le_of_ble_eq_true rfl) rfl (k_X2_pairOf ?_)
  refine xs_istore_3 eX2_countBetween_5 rfl ?_
  refine xs_iload_3 eX2_countBetween_6 ?_
  refine xa_if_lt (tgt := 25) eX2_countBetween_7 (by decide) (by omega) (fun c7 => ?_) (fun c7 => ?_)
  · exact absurd c7 (by omega)
  · refine xs_iload_3 eX2_countBetween_10 ?_
    refine xa_bipush eX2_countBetween_11 (by decide) ?_
    refine xa_icmp_ge (tgt := 25) eX2_countBetween_13 (by decide) (by omega) (by omega) (fun c13 => ?_) (fun c13 => ?_)
    · exact absurd c13 (by omega)
    · refine xs_aload_0 eX2_countBetween_16 ?_
      refine g_X2_0 eX2_countBetween_17 lRX2_11 ?_
      refine xs_iload_3 eX2_countBetween_20 ?_
      refine gar_25 eX2_countBetween_21 (by omega) (fun r21 => ?_)
      refine xa_goto (tgt := 26) eX2_countBetween_22 (by decide) ?_
      exact xa_iret eX2_countBetween_26 rfl ⟨_, rfl, by rw [show ((a : Int) * 8 + (b : Int)).toNat = 8 * a + b by omega]; exact hq⟩
set_option maxHeartbeats 4000000 in
theorem k_X2_countPairs {w : xW} {S : xS} {B : String → xS → Prop} {A : Int → xS → Prop} {s : Nat} (hq : A (sm (fun j => if 0 < S 25 s j then 1 else 0) 64) S) : Ki w mX2_countPairs yX2_countPairs 0 0 [xp 5 s] S A B := by
  refine K.of rfl rfl rfl rfl (Nat.le_of_ble_eq_true rfl) rfl ?_
  have lp : ∀ i : Nat, i ≤ 64 →  X w mX2_countPairs (xTG w (fun v S' => ∃ a, v = some (xi a) ∧ A a S') B) 0 0 4 [xp 5 s, xi (sm (fun j => if 0 < S 25 s j then 1 else 0) i), xi (i : Int)] [] S := by
    refine nloop (64) (fun i hi ih  => ?_)
    refine xs_iload_2 eX2_countPairs_4 ?_
    refine xa_bipush eX2_countPairs_5 (by decide) ?_
    refine xa_icmp_ge (tgt := 28) eX2_countPairs_7 (by decide) (by omega) (by omega) (fun c7 => ?_) (fun c7 => ?_)
    · refine xs_iload_1 eX2_countPairs_28 ?_
      exact xa_iret eX2_countPairs_29 rfl ⟨_, rfl, by rw [show 64 = i by omega] at hq; exact hq⟩
    · refine xs_aload_0 eX2_countPairs_10 ?_
      refine g_X2_0 eX2_countPairs_11 lRX2_11 ?_
      refine xs_iload_2 eX2_countPairs_14 ?_
      refine gar_25 eX2_countPairs_15 (by omega) (fun r15 => ?_)
      try simp only [Int.toNat_natCast] at r15 ⊢
      refine xa_if_le (tgt := 22) eX2_countPairs_16 (by decide) (by omega) (fun c16 => ?_) (fun c16 => ?_)
      · refine xs_iinc_2 eX2_countPairs_22 rfl ?_
        refine xa_goto (tgt := 4) eX2_countPairs_25 (by decide) ?_
        have h9 := ih (i + 1) (by omega) (by omega)
        rw [sm_s, if_neg (by omega)] at h9
        rw [Int.add_zero] at h9
        exact h9
      · refine xs_iinc_1 eX2_countPairs_19 rfl ?_
        refine xs_iinc_2 eX2_countPairs_22 rfl ?_
        refine xa_goto (tgt := 4) eX2_countPairs_25 (by decide) ?_
        have h9 := ih (i + 1) (by omega) (by omega)
        rw [sm_s, if_pos (by omega)] at h9
        exact h9
  refine xa_iconst eX2_countPairs_0 ?_
  refine xs_istore_1 eX2_countPairs_1 rfl ?_
  refine xa_iconst eX2_countPairs_2 ?_
  refine xs_istore_2 eX2_countPairs_3 rfl ?_
  exact lp 0 (by omega)
/-! single rows, as functions -/
def rwS (k0 j0 : Nat) (G : Nat → Int) (S : xS) : xS := fun k j f => if k = k0 ∧ j = j0 then G f else S k j f
theorem rwS_at (k0 j0 : Nat) (G : Nat → Int) (S : xS) : rwS k0 j0 G S k0 j0 = G := by funext f; unfold rwS; rw [if_pos ⟨rfl, rfl⟩]
theorem rwS_oth {k0 j0 : Nat} {G : Nat → Int} {S : xS} {k j : Nat} (h : ¬ (k = k0 ∧ j = j0)) : rwS k0 j0 G S k j = S k j := by funext f; unfold rwS; rw [if_neg h]
/-- from a bounded row to a function -/
theorem xrow.eqv {k0 j0 N : Nat} {G : Nat → Int} {S S' : xS} (h : xrow k0 j0 N G S' S) (hk : k0 = 4 ∧ N = 11 ∨ k0 = 10 ∧ N = 17) : xeq (rwS k0 j0 G S) S' := by
  obtain ⟨h1, h2⟩ := h
  have e : ∀ k j f, (k = k0 → f < N) → rwS k0 j0 G S k j f = S' k j f := fun k j f hf => by
    unfold rwS
    by_cases c : k = k0 ∧ j = j0
    · rw [if_pos c, c.1, c.2]; exact (h1 f (hf c.1)).symm
    · rw [if_neg c, h2 k j c]
  refine ⟨fun k j h4 h10 => by funext f; exact e k j f (by omega), fun j f hf => e 4 j f (by omega), fun j f hf => e 10 j f (by omega)⟩
theorem xrow.mix {k0 j0 N : Nat} {G : Nat → Int} {S S' : xS} (h : xrow k0 j0 N G S' S) (hg : ∀ f, N ≤ f → (∃ j, G f = S k0 j f) ∨ xlng k0 f = false ∧ xr (G f)) : ∀ k j f, rwS k0 j0 G S k j f = S' k j f ∨ (∃ j', rwS k0 j0 G S k j f = S k j' f) ∨ xlng k f = false ∧ xr (rwS k0 j0 G S k j f) := by
  obtain ⟨h1, h2⟩ := h
  intro k j f
  unfold rwS
  by_cases c : k = k0 ∧ j = j0
  · rw [if_pos c]
    by_cases hf : f < N
    · left; rw [c.1, c.2]; exact (h1 f hf).symm
    · right; rw [c.1]; exact hg f (by omega)
  · rw [if_neg c]; right; left; exact ⟨j, rfl⟩
theorem f_X0_begin {w : xW} {S : xS} {B : String → xS → Prop} {A : xS → Prop} {j : Nat} {m b d : Int} (hm : xr m) (hb : xr b) (hd : xr d) (hq : A (rwS 4 j (fun f => if f = 0 then m else if f = 1 then b else if f = 2 then d else 0) S)) : Kv w mX0_begin yX0_begin 0 0 [xp 4 j, xi m, xi b, xi d] S A B :=
  K.eqv (k_X0_begin (A := fun S' => xrow 4 j 11 (fun f => if f = 0 then m else if f = 1 then b else if f = 2 then d else 0) S' S) hm hb hd (fun S' h => h)) (fun v S' h => ⟨_, h.2.eqv (Or.inl ⟨rfl, rfl⟩), h.2.mix (fun f hf => Or.inr ⟨rfl, by rw [if_neg (by omega), if_neg (by omega), if_neg (by omega)]; decide⟩), h.1, hq⟩)
theorem f_X0_copyFrom {w : xW} {S : xS} {B : String → xS → Prop} {A : xS → Prop} {j i : Nat} (hq : A (rwS 4 j (S 4 i) S)) : Kv w mX0_copyFrom yX0_copyFrom 0 0 [xp 4 j, xp 4 i] S A B :=
  K.eqv (k_X0_copyFrom (A := fun S' => xrow 4 j 11 (S 4 i) S' S) (fun S' h => h)) (fun v S' h => ⟨_, h.2.eqv (Or.inl ⟨rfl, rfl⟩), h.2.mix (fun f hf => Or.inl ⟨i, rfl⟩), h.1, hq⟩)
theorem f_X1_finish {w : xW} {S : xS} {B : String → xS → Prop} {A : Int → xS → Prop} {j : Nat} (hq : A (S 10 j 6) (rwS 10 j (xfin (S 10 j)) S)) : Ki w mX1_finish yX1_finish 0 0 [xp 10 j] S A B :=
  K.eqv (k_X1_finish (A := fun a S' => a = S 10 j 6 ∧ xrow 10 j 17 (xfin (S 10 j)) S' S) (fun S' h => ⟨rfl, h⟩)) (fun v S' h => by
    obtain ⟨a, e1, e2, h⟩ := h
    exact ⟨_, h.eqv (Or.inr ⟨rfl, rfl⟩), h.mix (fun f hf => Or.inl ⟨j, by unfold xfin; repeat rw [if_neg (by omega)]⟩), a, e1, by rw [e2]; exact hq⟩)
/-- a promise's two parts -/
def divS (t N i : Nat) (a : Int) (S : xS) : xS := fun k j f => if k = 10 ∧ j = 32 * t + i then xgr1 a (S 10 (32 * t + i)) f else if k = 10 ∧ j = 32 * t + N then xgr2 a (S 10 (32 * t + i)) (xbeg (S 10 (32 * t + i) 1) (S 10 (32 * t + i) 2) (S 10 (32 * t + i) 3 - a) (S 10 (32 * t + i) 4) (S 2 t 2)) f else if k = 2 ∧ j = t ∧ f = 1 then (N : Int) + 1 else S k j f
theorem f_X5_divide {w : xW} {S : xS} {B : String → xS → Prop} {A : xS → Prop} {t N i : Nat} {a : Int} (ha : xr a) (hN : S 2 t 1 = (N : Int)) (h21 : N < 21) (hi : i < N) (h1 : xr (S 10 (32 * t + i) 3 - a)) (h2 : xr (S 10 (32 * t + i) 6 - a)) (hq : A (divS t N i a S)) : Kv w mX5_divide yX5_divide 0 0 [xp 2 t, xp 10 (32 * t + i), xi a] S A B := by
  refine K.eqv (k_X5_divide (A := fun S' => (∀ f, f < 17 → S' 10 (32 * t + i) f = xgr1 a (S 10 (32 * t + i)) f) ∧ (∀ f, f < 17 → S' 10 (32 * t + N) f = xgr2 a (S 10 (32 * t + i)) (xbeg (S 10 (32 * t + i) 1) (S 10 (32 * t + i) 2) (S 10 (32 * t + i) 3 - a) (S 10 (32 * t + i) 4) (S 2 t 2)) f) ∧ (∀ x y, ¬ (x = 10 ∧ y = 32 * t + i) → ¬ (x = 10 ∧ y = 32 * t + N) → S' x y = up S 2 t 1 (N + 1) x y)) ha hN h21 hi h1 h2 (fun S' g1 g2 g3 => ⟨g1, g2, g3⟩)) (fun v S' h => ⟨divS t N i a S, ?_, ?_, h.1, hq⟩)
  · obtain ⟨-, g1, g2, g3⟩ := h
    refine ⟨fun k j k4 k10 => ?_, fun j f hf => ?_, fun j f hf => ?_⟩
    · rw [g3 k j (by omega) (by omega)]; funext f; unfold divS; rw [if_neg (by omega), if_neg (by omega), up_app]
    · rw [g3 4 j (by omega) (by omega)]; unfold divS; rw [if_neg (by omega), if_neg (by omega), up_app]
    · unfold divS
      by_cases c : j = 32 * t + i
      · rw [if_pos ⟨rfl, c⟩, c]; exact (g1 f hf).symm
      · rw [if_neg (fun z => c z.2)]
        by_cases c2 : j = 32 * t + N
        · rw [if_pos ⟨rfl, c2⟩, c2]; exact (g2 f hf).symm
        · rw [if_neg (fun z => c2 z.2), g3 10 j (fun z => c z.2) (fun z => c2 z.2), up_app]
  · intro k j f
    obtain ⟨-, g1, g2, g3⟩ := h
    unfold divS
    by_cases c : k = 10 ∧ j = 32 * t + i
    · rw [if_pos c]
      by_cases hf : f < 17
      · left; rw [c.1, c.2]; exact (g1 f hf).symm
      · right; left; refine ⟨j, ?_⟩; unfold xgr1; rw [if_neg (by omega), if_neg (by omega), c.1, c.2]
    · rw [if_neg c]
      by_cases c2 : k = 10 ∧ j = 32 * t + N
      · rw [if_pos c2]
        by_cases hf : f < 17
        · left; rw [c2.1, c2.2]; exact (g2 f hf).symm
        · right; right; unfold xgr2 xbeg; repeat rw [if_neg (by omega)]
          rw [c2.1]; exact ⟨rfl, by decide⟩
      · rw [if_neg c2]
        by_cases c3 : k = 2 ∧ j = t ∧ f = 1
        · rw [if_pos c3, c3.1]; right; right; exact ⟨rfl, by omega⟩
        · rw [if_neg c3]; right; left; exact ⟨j, rfl⟩

