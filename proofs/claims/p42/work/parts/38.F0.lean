/-! PromiseMarket: the checks -/
/-! the face: what is not looked at behind a call, on both sides -/
def sct (x y : Nat) : Prop := (x = 1 ∧ (y = 1 ∨ y = 4)) ∨ (x = 2 ∧ (y = 1 ∨ 4 ≤ y)) ∨ (x = 4 ∧ ((8 ≤ y ∧ y < 16) ∨ 32 ≤ y)) ∨ (x = 5 ∧ (y = 1 ∨ y = 4)) ∨ (x = 10 ∧ ((32 ≤ y ∧ y < 64) ∨ 128 ≤ y)) ∨ (x = 25 ∧ (y = 1 ∨ y = 4))
def scr (S' S : xS) : Prop := ∀ x y, ¬ sct x y → S' x y = S x y
theorem scr.rf {S : xS} : scr S S := fun _ _ _ => rfl
theorem scr.tr {S1 S2 S3 : xS} (h : scr S3 S2) (g : scr S2 S1) : scr S3 S1 := fun x y k => (h x y k).trans (g x y k)
theorem xtl.scr {u : Nat} {S1 S2 : xS} (h : xtl u S2 S1) (hu : 4 ≤ u) : scr S2 S1 := fun x y k => h x y (by unfold sct at k; omega) (by unfold sct at k; omega)
theorem xts.scr {s : Nat} {S1 S2 : xS} (h : xts s S2 S1) (hs : s = 1 ∨ s = 4) : scr S2 S1 := fun x y k => h x y (by unfold sct at k; omega) (by unfold sct at k; omega) (by unfold sct at k; omega) (by unfold sct at k; omega) (by unfold sct at k; omega) (by unfold sct at k; omega)
/-- an answer: how it ends (0: it returns), what, how many processes and promises there are then, the store -/
abbrev xO : Type := Nat × Int × Nat × Nat × xS
set_option maxHeartbeats 400000 in
theorem k_X7_isWithin {w : xW} {S : xS} {B : String → xS → Prop} {A : Int → xS → Prop} {a b c : Int} (ha : xr a) (hb : xr b) (hc : xr c) (hq : A (b2i (b ≤ a ∧ a ≤ c)) S) : Ki w mX7_isWithin yX7_isWithin 0 0 [xi a, xi b, xi c] S A B := by
  refine K.of rfl rfl rfl rfl (Nat.le_of_ble_eq_true rfl) rfl ?_
  refine xs_iload_1 eX7_isWithin_0 ?_
  refine xs_iload_0 eX7_isWithin_1 ?_
  refine xa_icmp_gt (tgt := 14) eX7_isWithin_2 (by decide) (by omega) (by omega) (fun c2 => ?_) (fun c2 => ?_)
  · refine xa_iconst eX7_isWithin_14 ?_
    exact xa_zret eX7_isWithin_15 rfl (by omega) ⟨_, rfl, by first | (rw [b2i, if_pos (by omega)] at hq; exact hq) | (rw [b2i, if_neg (by omega)] at hq; exact hq)⟩
  · refine xs_iload_0 eX7_isWithin_5 ?_
    refine xs_iload_2 eX7_isWithin_6 ?_
    refine xa_icmp_gt (tgt := 14) eX7_isWithin_7 (by decide) (by omega) (by omega) (fun c7 => ?_) (fun c7 => ?_)
    · refine xa_iconst eX7_isWithin_14 ?_
      exact xa_zret eX7_isWithin_15 rfl (by omega) ⟨_, rfl, by first | (rw [b2i, if_pos (by omega)] at hq; exact hq) | (rw [b2i, if_neg (by omega)] at hq; exact hq)⟩
    · refine xa_iconst eX7_isWithin_10 ?_
      refine xa_goto (tgt := 15) eX7_isWithin_11 (by decide) ?_
      exact xa_zret eX7_isWithin_15 rfl (by omega) ⟨_, rfl, by first | (rw [b2i, if_pos (by omega)] at hq; exact hq) | (rw [b2i, if_neg (by omega)] at hq; exact hq)⟩
set_option maxHeartbeats 400000 in
theorem k_X7_isPeriod {w : xW} {S : xS} {B : String → xS → Prop} {A : Int → xS → Prop} {a : Int} (ha : xr a) (hq : A (b2i (perP a)) S) : Ki w mX7_isPeriod yX7_isPeriod 0 0 [xi a] S A B := by
  refine K.of rfl rfl rfl rfl (Nat.le_of_ble_eq_true rfl) rfl ?_
  refine xs_iload_0 eX7_isPeriod_0 ?_
  refine xa_iconst eX7_isPeriod_1 ?_
  refine xa_bipush eX7_isPeriod_2 (by decide) ?_
  refine xbi_S30 (mi' := mX7_isWithin) (y := yX7_isWithin) eX7_isPeriod_4 (xw_4 lRX7_167 wy_X7_isWithin) rfl rfl ⟨wd_X7_isWithin, by decide, by decide⟩ (Nat.le_of_ble_eq_true rfl) rfl (k_X7_isWithin ha (by decide) (by decide) ?_)
  refine xa_ifb_eq (tgt := 21) eX7_isPeriod_7 (by decide) (fun c7 => ?_) (fun c7 => ?_)
  · refine xa_iconst eX7_isPeriod_21 ?_
    exact xa_zret eX7_isPeriod_22 rfl (by omega) ⟨_, rfl, by first | (rw [b2i, if_pos ⟨c7.1, c7.2, c14⟩] at hq; exact hq) | (rw [b2i, if_neg (fun z => c14 z.2.2)] at hq; exact hq) | (rw [b2i, if_neg (fun z => c7 ⟨z.1, z.2.1⟩)] at hq; exact hq)⟩
  · refine xa_bipush eX7_isPeriod_10 (by decide) ?_
    refine xs_iload_0 eX7_isPeriod_12 ?_
    refine xa_irem eX7_isPeriod_13 (by decide) (by omega) (by omega) ?_
    refine xa_if_ne (tgt := 21) eX7_isPeriod_14 (by decide) (by have h1 := Int.tmod_nonneg a (show (0 : Int) ≤ 120 by decide); have h2 := Int.tmod_lt_of_pos 120 (show 0 < a by omega); omega) (fun c14 => ?_) (fun c14 => ?_)
    · refine xa_iconst eX7_isPeriod_21 ?_
      exact xa_zret eX7_isPeriod_22 rfl (by omega) ⟨_, rfl, by first | (rw [b2i, if_pos ⟨c7.1, c7.2, c14⟩] at hq; exact hq) | (rw [b2i, if_neg (fun z => c14 z.2.2)] at hq; exact hq) | (rw [b2i, if_neg (fun z => c7 ⟨z.1, z.2.1⟩)] at hq; exact hq)⟩
    · refine xa_iconst eX7_isPeriod_17 ?_
      refine xa_goto (tgt := 22) eX7_isPeriod_18 (by decide) ?_
      exact xa_zret eX7_isPeriod_22 rfl (by omega) ⟨_, rfl, by first | (rw [b2i, if_pos ⟨c7.1, c7.2, c14⟩] at hq; exact hq) | (rw [b2i, if_neg (fun z => c14 z.2.2)] at hq; exact hq) | (rw [b2i, if_neg (fun z => c7 ⟨z.1, z.2.1⟩)] at hq; exact hq)⟩
set_option maxHeartbeats 400000 in
theorem kk_X7_checkArgument {w : xW} {S : xS} {B : String → xS → Prop} {A : xS → Prop} {P : Prop} [Decidable P] (h : P) (hq : A S) : Kv w mX7_checkArgument yX7_checkArgument 0 0 [xi (b2i P)] S A B := by
  refine K.of rfl rfl rfl rfl (Nat.le_of_ble_eq_true rfl) rfl ?_
  refine xs_iload_0 eX7_checkArgument_0 ?_
  refine xa_ifb_ne (tgt := 14) eX7_checkArgument_1 (by decide) (fun c1 => ?_) (fun c1 => ?_)
  · exact xa_vret eX7_checkArgument_14 rfl ⟨rfl, hq⟩
  · exact absurd h c1
set_option maxHeartbeats 400000 in
theorem kt_X7_checkArgument {w : xW} {S : xS} {B : String → xS → Prop} {A : xS → Prop} {P : Prop} [Decidable P] (h : ¬ P) (hB : B "java/lang/IllegalArgumentException" S) : Kv w mX7_checkArgument yX7_checkArgument 1 6 [xi (b2i P)] S A B := by
  refine K.of rfl rfl rfl rfl (Nat.le_of_ble_eq_true rfl) rfl ?_
  refine xs_iload_0 eX7_checkArgument_0 ?_
  refine xa_ifb_ne (tgt := 14) eX7_checkArgument_1 (by decide) (fun c1 => ?_) (fun c1 => ?_)
  · exact absurd c1 h
  · exact xa_throwS (names := ["java/lang/RuntimeException", "java/lang/Exception"]) (text := "an argument is out of range") (sn := 8) eX7_checkArgument_4 eX7_checkArgument_7 eX7_checkArgument_8 eX7_checkArgument_10 eX7_checkArgument_13 (by decide) (by decide) ac_RX7_252 ai_RX7_252 (List.mem_of_getElem? (i := 2) rfl) at1_RX7_252 at2_RX7_252 at3_RX7_252 rfl (Nat.le_of_ble_eq_true rfl) (Nat.le_of_ble_eq_true rfl) (by omega) (by omega) hB
set_option maxHeartbeats 400000 in
theorem kk_X7_checkState {w : xW} {S : xS} {B : String → xS → Prop} {A : xS → Prop} {P : Prop} [Decidable P] (h : P) (hq : A S) : Kv w mX7_checkState yX7_checkState 0 0 [xi (b2i P)] S A B := by
  refine K.of rfl rfl rfl rfl (Nat.le_of_ble_eq_true rfl) rfl ?_
  refine xs_iload_0 eX7_checkState_0 ?_
  refine xa_ifb_ne (tgt := 15) eX7_checkState_1 (by decide) (fun c1 => ?_) (fun c1 => ?_)
  · exact xa_vret eX7_checkState_15 rfl ⟨rfl, hq⟩
  · exact absurd h c1
set_option maxHeartbeats 400000 in
theorem kt_X7_checkState {w : xW} {S : xS} {B : String → xS → Prop} {A : xS → Prop} {P : Prop} [Decidable P] (h : ¬ P) (hB : B "java/lang/IllegalStateException" S) : Kv w mX7_checkState yX7_checkState 1 6 [xi (b2i P)] S A B := by
  refine K.of rfl rfl rfl rfl (Nat.le_of_ble_eq_true rfl) rfl ?_
  refine xs_iload_0 eX7_checkState_0 ?_
  refine xa_ifb_ne (tgt := 15) eX7_checkState_1 (by decide) (fun c1 => ?_) (fun c1 => ?_)
  · exact absurd c1 h
  · exact xa_throwSW (names := ["java/lang/RuntimeException", "java/lang/Exception"]) (text := "the state does not allow this call") (sn := 9) eX7_checkState_4 eX7_checkState_7 eX7_checkState_8 eX7_checkState_11 eX7_checkState_14 (by decide) (by decide) ac_RX7_259 ai_RX7_259 (List.mem_of_getElem? (i := 3) rfl) at1_RX7_259 at2_RX7_259 at3_RX7_259 rfl (Nat.le_of_ble_eq_true rfl) (Nat.le_of_ble_eq_true rfl) (by omega) (by omega) hB
set_option maxHeartbeats 400000 in
theorem kk_X7_checkRange {w : xW} {S : xS} {B : String → xS → Prop} {A : xS → Prop} {a b c : Int} (ha : xr a) (hb : xr b) (hc : xr c) (h : b ≤ a ∧ a ≤ c) (hq : A S) : Kv w mX7_checkRange yX7_checkRange 0 0 [xi a, xi b, xi c] S A B := by
  refine K.of rfl rfl rfl rfl (Nat.le_of_ble_eq_true rfl) rfl ?_
  refine xs_iload_0 eX7_checkRange_0 ?_
  refine xs_iload_1 eX7_checkRange_1 ?_
  refine xs_iload_2 eX7_checkRange_2 ?_
  refine xbi_S30 (mi' := mX7_isWithin) (y := yX7_isWithin) eX7_checkRange_3 (xw_4 lRX7_167 wy_X7_isWithin) rfl rfl ⟨wd_X7_isWithin, by decide, by decide⟩ (Nat.le_of_ble_eq_true rfl) rfl (k_X7_isWithin ha hb hc ?_)
  refine xbv_S10 (mi' := mX7_checkArgument) (y := yX7_checkArgument) eX7_checkRange_6 (xw_4 lRX7_116 wy_X7_checkArgument) rfl rfl ⟨wd_X7_checkArgument, by decide, by decide⟩ (Nat.le_of_ble_eq_true rfl) rfl (kk_X7_checkArgument h ?_)
  exact xa_vret eX7_checkRange_9 rfl ⟨rfl, hq⟩
set_option maxHeartbeats 400000 in
theorem kt_X7_checkRange {w : xW} {S : xS} {B : String → xS → Prop} {A : xS → Prop} {a b c : Int} (ha : xr a) (hb : xr b) (hc : xr c) (h : ¬ (b ≤ a ∧ a ≤ c)) (hB : B "java/lang/IllegalArgumentException" S) : Kv w mX7_checkRange yX7_checkRange 1 6 [xi a, xi b, xi c] S A B := by
  refine K.of rfl rfl rfl rfl (Nat.le_of_ble_eq_true rfl) rfl ?_
  refine xs_iload_0 eX7_checkRange_0 ?_
  refine xs_iload_1 eX7_checkRange_1 ?_
  refine xs_iload_2 eX7_checkRange_2 ?_
  refine xbi_S30 (mi' := mX7_isWithin) (y := yX7_isWithin) eX7_checkRange_3 (xw_4 lRX7_167 wy_X7_isWithin) rfl rfl ⟨wd_X7_isWithin, by decide, by decide⟩ (Nat.le_of_ble_eq_true rfl) rfl (k_X7_isWithin ha hb hc ?_)
  exact xbv_S1 (mi' := mX7_checkArgument) (y := yX7_checkArgument) eX7_checkRange_6 (xw_4 lRX7_116 wy_X7_checkArgument) rfl rfl ⟨wd_X7_checkArgument, by decide, by decide⟩ (Nat.le_of_ble_eq_true rfl) rfl ⟨by decide, by decide⟩ (kt_X7_checkArgument h (xt_out rfl hB))
set_option maxHeartbeats 400000 in
theorem kk_X7_checkPromise {w : xW} {S : xS} {B : String → xS → Prop} {A : xS → Prop} {p b d : Int} (hp : xr p) (hb : xr b) (hd : xr d) (h : wshP p b d) (hq : A S) : Kv w mX7_checkPromise yX7_checkPromise 0 0 [xi p, xi b, xi d] S A B := by
  refine K.of rfl rfl rfl rfl (Nat.le_of_ble_eq_true rfl) rfl ?_
  refine xs_iload_0 eX7_checkPromise_0 ?_
  refine xbi_S10 (mi' := mX7_isPeriod) (y := yX7_isPeriod) eX7_checkPromise_1 (xw_4 lRX7_112 wy_X7_isPeriod) rfl rfl ⟨wd_X7_isPeriod, by decide, by decide⟩ (Nat.le_of_ble_eq_true rfl) rfl (k_X7_isPeriod hp ?_)
  refine xbv_S10 (mi' := mX7_checkArgument) (y := yX7_checkArgument) eX7_checkPromise_4 (xw_4 lRX7_116 wy_X7_checkArgument) rfl rfl ⟨wd_X7_checkArgument, by decide, by decide⟩ (Nat.le_of_ble_eq_true rfl) rfl (kk_X7_checkArgument h.1 ?_)
  refine xs_iload_1 eX7_checkPromise_7 ?_
  refine xa_iconst eX7_checkPromise_8 ?_
  refine xa_bipush eX7_checkPromise_9 (by decide) ?_
  refine xbv_S30 (mi' := mX7_checkRange) (y := yX7_checkRange) eX7_checkPromise_11 (xw_4 lRX7_45 wy_X7_checkRange) rfl rfl ⟨wd_X7_checkRange, by decide, by decide⟩ (Nat.le_of_ble_eq_true rfl) rfl (kk_X7_checkRange hb (by decide) (by decide) h.2.1 ?_)
  refine xs_iload_2 eX7_checkPromise_14 ?_
  refine xs_iload_1 eX7_checkPromise_15 ?_
  refine xs_iload_0 eX7_checkPromise_16 ?_
  refine xbv_S30 (mi' := mX7_checkRange) (y := yX7_checkRange) eX7_checkPromise_17 (xw_4 lRX7_45 wy_X7_checkRange) rfl rfl ⟨wd_X7_checkRange, by decide, by decide⟩ (Nat.le_of_ble_eq_true rfl) rfl (kk_X7_checkRange hd hb hp h.2.2 ?_)
  exact xa_vret eX7_checkPromise_20 rfl ⟨rfl, hq⟩
set_option maxHeartbeats 400000 in
theorem kt_X7_checkPromise {w : xW} {S : xS} {B : String → xS → Prop} {A : xS → Prop} {p b d : Int} (hp : xr p) (hb : xr b) (hd : xr d) (h : ¬ wshP p b d) (hB : B "java/lang/IllegalArgumentException" S) : Kv w mX7_checkPromise yX7_checkPromise 1 6 [xi p, xi b, xi d] S A B := by
  refine K.of rfl rfl rfl rfl (Nat.le_of_ble_eq_true rfl) rfl ?_
  refine xs_iload_0 eX7_checkPromise_0 ?_
  refine xbi_S10 (mi' := mX7_isPeriod) (y := yX7_isPeriod) eX7_checkPromise_1 (xw_4 lRX7_112 wy_X7_isPeriod) rfl rfl ⟨wd_X7_isPeriod, by decide, by decide⟩ (Nat.le_of_ble_eq_true rfl) rfl (k_X7_isPeriod hp ?_)
  by_cases c4 : perP p
  · refine xbv_S10 (mi' := mX7_checkArgument) (y := yX7_checkArgument) eX7_checkPromise_4 (xw_4 lRX7_116 wy_X7_checkArgument) rfl rfl ⟨wd_X7_checkArgument, by decide, by decide⟩ (Nat.le_of_ble_eq_true rfl) rfl (kk_X7_checkArgument c4 ?_)
    refine xs_iload_1 eX7_checkPromise_7 ?_
    refine xa_iconst eX7_checkPromise_8 ?_
    refine xa_bipush eX7_checkPromise_9 (by decide) ?_
    by_cases c11 : 1 ≤ b ∧ b ≤ 120
    · refine xbv_S30 (mi' := mX7_checkRange) (y := yX7_checkRange) eX7_checkPromise_11 (xw_4 lRX7_45 wy_X7_checkRange) rfl rfl ⟨wd_X7_checkRange, by decide, by decide⟩ (Nat.le_of_ble_eq_true rfl) rfl (kk_X7_checkRange hb (by decide) (by decide) c11 ?_)
      refine xs_iload_2 eX7_checkPromise_14 ?_
      refine xs_iload_1 eX7_checkPromise_15 ?_
      refine xs_iload_0 eX7_checkPromise_16 ?_
      exact xbv_S3 (mi' := mX7_checkRange) (y := yX7_checkRange) eX7_checkPromise_17 (xw_4 lRX7_45 wy_X7_checkRange) rfl rfl ⟨wd_X7_checkRange, by decide, by decide⟩ (Nat.le_of_ble_eq_true rfl) rfl ⟨by decide, by decide⟩ (kt_X7_checkRange hd hb hp (fun z => h ⟨c4, c11, z⟩) (xt_out rfl hB))
    · exact xbv_S3 (mi' := mX7_checkRange) (y := yX7_checkRange) eX7_checkPromise_11 (xw_4 lRX7_45 wy_X7_checkRange) rfl rfl ⟨wd_X7_checkRange, by decide, by decide⟩ (Nat.le_of_ble_eq_true rfl) rfl ⟨by decide, by decide⟩ (kt_X7_checkRange hb (by decide) (by decide) c11 (xt_out rfl hB))
  · exact xbv_S1 (mi' := mX7_checkArgument) (y := yX7_checkArgument) eX7_checkPromise_4 (xw_4 lRX7_116 wy_X7_checkArgument) rfl rfl ⟨wd_X7_checkArgument, by decide, by decide⟩ (Nat.le_of_ble_eq_true rfl) rfl ⟨by decide, by decide⟩ (kt_X7_checkArgument c4 (xt_out rfl hB))
theorem kt_X4_knownProcess {w : xW} {S : xS} {B : String → xS → Prop} {A : xV → xS → Prop} {s n : Nat} {a : Int} (hn : S 1 s 3 = (n : Int)) (h8 : n ≤ 8) (ha : xr a) (h : ¬ (0 ≤ a ∧ a < n)) (hB : B "java/lang/IndexOutOfBoundsException" S) : Ko w mX4_knownProcess yX4_knownProcess 1 6 [xp 1 s, xi a] S A B :=
  k_X4_knownProcess hn h8 ha (fun h1 h2 => absurd ⟨h1, h2⟩ h) (fun _ => hB)
theorem kt_X5_knownPromise {w : xW} {S : xS} {B : String → xS → Prop} {A : xV → xS → Prop} {t N : Nat} {a : Int} (hN : S 2 t 1 = (N : Int)) (h21 : N ≤ 21) (ha : xr a) (h : ¬ (0 ≤ a ∧ a < N)) (hB : B "java/lang/IndexOutOfBoundsException" S) : Ko w mX5_knownPromise yX5_knownPromise 1 6 [xp 2 t, xi a] S A B :=
  k_X5_knownPromise ha (by omega) (fun h1 h2 => absurd ⟨h1, by omega⟩ h) (fun _ => hB)
theorem kI_X5_knownPromise {w : xW} {S : xS} {B : String → xS → Prop} {A : xV → xS → Prop} {t N : Nat} {a : Int} (hN : S 2 t 1 = (N : Int)) (h21 : N ≤ 21) (h : 0 ≤ a ∧ a < N) (hA : A (xp 10 (32 * t + a.toNat)) S) : Ko w mX5_knownPromise yX5_knownPromise 0 0 [xp 2 t, xi a] S A B :=
  kk_X5_knownPromise (by omega) (by omega) hA

