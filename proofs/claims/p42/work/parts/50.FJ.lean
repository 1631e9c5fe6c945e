/-! demands -/
def demF (t N : Nat) (a : Int) (S : xS) : Int := sm (fun j => if S 10 (32 * t + j) 0 = 0 then xdem a (S 10 (32 * t + j)) else 0) N
def dmd (p b d t : Int) : Int := if t < d then 0 else b * (Int.tdiv (t - d) p + 1)
theorem xdem_r {t T a : Int} {F : Nat → Int} (h : TQ t T F) (ha : 0 ≤ a ∧ a ≤ 240) : 0 ≤ xdem a F ∧ xdem a F ≤ 28920 := by
  unfold TQ at h
  unfold xdem
  split
  · omega
  · rename_i c
    have h1 : 0 ≤ a - F 4 := by omega
    have h2 : 0 ≤ Int.tdiv (a - F 4) (F 2) := Int.tdiv_nonneg h1 (by omega)
    have h3 : Int.tdiv (a - F 4) (F 2) ≤ 240 := by
      rw [Int.tdiv_eq_ediv_of_nonneg h1]
      exact Int.le_trans (Int.ediv_le_self _ h1) (by omega)
    have h4 : 0 ≤ F 3 * (Int.tdiv (a - F 4) (F 2) + 1) := Int.mul_nonneg (by omega) (by omega)
    have h5 : F 3 * (Int.tdiv (a - F 4) (F 2) + 1) ≤ F 3 * 241 := Int.mul_le_mul_of_nonneg_left (by omega) (by omega)
    omega
theorem demF_r {t N : Nat} {T a : Int} {S : xS} (h : VT t N T S) (ha : 0 ≤ a ∧ a ≤ 240) : 0 ≤ demF t N a S ∧ demF t N a S ≤ 607320 := by
  have h9 := sm_range (g := fun j => if S 10 (32 * t + j) 0 = 0 then xdem a (S 10 (32 * t + j)) else 0) (lo := 0) (hi := 28920) (n := N) (fun j hj => by
    have h2 := xdem_r (h.2.2.2 j hj) ha
    split
    · exact h2
    · omega)
  have h21 := h.2.1
  unfold demF
  omega
theorem tgt_min (D : Nat → Int) : ∀ i k : Nat, 1 ≤ k → k ≤ i + 1 → (tgt D i : Int) - D (tgt D i) ≤ (k : Int) - D k
  | 0, k, h1, h2 => by
    obtain rfl : k = 1 := by omega
    exact Int.le_refl _
  | i + 1, k, h1, h2 => by
    by_cases e : k = i + 2
    · subst e
      rw [tgt]
      split
      · exact Int.le_refl _
      · rename_i c; omega
    · have h9 := tgt_min D i k h1 (by omega)
      rw [tgt]
      split
      · rename_i c; omega
      · exact h9
def bddF (N : Nat) (p b d : Int) (C : xS) : Nat → Bool
  | 0 => true
  | i + 1 => bddF N p b d C i && decide (demF 0 N ((i + 1 : Nat) : Int) C + dmd p b d ((i + 1 : Nat) : Int) ≤ ((i + 1 : Nat) : Int))
theorem bddF_iff {N : Nat} {p b d : Int} {C : xS} : ∀ i : Nat, bddF N p b d C i = true ↔ ∀ k : Nat, 1 ≤ k → k ≤ i → demF 0 N (k : Int) C + dmd p b d (k : Int) ≤ (k : Int)
  | 0 => ⟨fun _ k h1 h2 => by omega, fun _ => rfl⟩
  | i + 1 => by
    rw [bddF, Bool.and_eq_true, bddF_iff i, decide_eq_true_iff]
    refine ⟨fun h k h1 h2 => ?_, fun h => ⟨fun k h1 h2 => h k h1 (by omega), h (i + 1) (by omega) (Nat.le_refl _)⟩⟩
    by_cases e : k = i + 1
    · subst e; exact h.2
    · exact h.1 k h1 (by omega)
theorem dem_add {N : Nat} {o p b d a : Int} {S : xS} (hp : 1 ≤ p) : demF 5 (N + 1) a (addT 5 N o p b d (cpyT 0 5 N S)) = demF 0 N a S + dmd p b d a := by
  unfold demF
  rw [sm_s]
  have e1 : sm (fun j => if addT 5 N o p b d (cpyT 0 5 N S) 10 (32 * 5 + j) 0 = 0 then xdem a (addT 5 N o p b d (cpyT 0 5 N S) 10 (32 * 5 + j)) else 0) N = sm (fun j => if S 10 (32 * 0 + j) 0 = 0 then xdem a (S 10 (32 * 0 + j)) else 0) N := sm_congr (fun j hj => by
    have er : addT 5 N o p b d (cpyT 0 5 N S) 10 (32 * 5 + j) = S 10 (32 * 0 + j) := by
      funext f
      unfold addT
      rw [if_neg (by omega), if_neg (by omega)]
      unfold cpyT
      rw [if_neg (by omega), if_neg (by omega), if_pos ⟨rfl, by omega, by omega⟩, Nat.add_sub_cancel_left]
    rw [er])
  have e2 : addT 5 N o p b d (cpyT 0 5 N S) 10 (32 * 5 + N) = xbeg o p b d (cpyT 0 5 N S 2 5 2) := by
    funext f
    unfold addT
    rw [if_neg (by omega), if_pos ⟨rfl, rfl⟩]
  rw [e1, e2]
  have e3 : xbeg o p b d (cpyT 0 5 N S 2 5 2) 0 = 0 := rfl
  rw [if_pos e3]
  have e4 : xdem a (xbeg o p b d (cpyT 0 5 N S 2 5 2)) = dmd p b d a := by
    show (if a < d ∨ p < 1 then 0 else b * (Int.tdiv (a - d) p + 1)) = _
    unfold dmd
    by_cases c : a < d
    · rw [if_pos (Or.inl c), if_pos c]
    · rw [if_neg (by omega), if_neg c]
  rw [e4]
def o_demand (a : Int) (n N : Nat) (C : xS) : xO := if 1 ≤ a ∧ a ≤ 240 then (0, demF 0 N a C, n, N, C) else (1, 0, n, N, C)
def o_isBounded (p b d : Int) (n N : Nat) (C : xS) : xO := if wshP p b d then (0, b2i (bddF N p b d C 240 = true), n, N, C) else (1, 0, n, N, C)
set_option maxHeartbeats 400000 in
theorem F_demand {w : xW} {S : xS} {B : String → xS → Prop} {A : Int → xS → Prop} {a : Int} {n N : Nat} {T : Int} (hV : VS 0 n N T S) (hT : T ≤ 800000) (ya : xr a)  (hA : ∀ S', (o_demand a n N S).1 = 0 → scr S' (o_demand a n N S).2.2.2.2 → A (o_demand a n N S).2.1 S') (hB1 : ∀ S', (o_demand a n N S).1 = 1 → scr S' S → B "java/lang/IllegalArgumentException" S') : Ki w mX7_demand yX7_demand 1 6 [xp 0 0, xi a] S A B := by
  refine K.of rfl rfl rfl rfl (Nat.le_of_ble_eq_true rfl) rfl ?_
  obtain ⟨hVT, hN20, h8, hg, hp, ho, hs⟩ := id hV
  have hn := hg.1
  have hN := hVT.1
  have ht := hVT.2.2.1
  refine xs_iload_1 eX7_demand_0 ?_
  refine xa_iconst eX7_demand_1 ?_
  refine xa_sipush eX7_demand_2 (by decide) ?_
  by_cases c5 : 1 ≤ a ∧ a ≤ 240
  · refine xbv_S30 (mi' := mX7_checkRange) (y := yX7_checkRange) eX7_demand_5 (xw_4 lRX7_45 wy_X7_checkRange) rfl rfl ⟨wd_X7_checkRange, by decide, by decide⟩ (Nat.le_of_ble_eq_true rfl) rfl (kk_X7_checkRange ya (by decide) (by decide) c5 ?_)
    refine xs_aload_0 eX7_demand_8 ?_
    refine g_X7_0 eX7_demand_9 lRX7_10 ?_
    refine g_X4_0 eX7_demand_12 lRX7_88 ?_
    refine xs_iload_1 eX7_demand_15 ?_
    refine xbi_V10 (mi' := mX5_demandIn) (y := yX5_demandIn) eX7_demand_16 (xw_5 lRX7_153 wy_X5_demandIn) rfl ⟨wd_X5_demandIn, by decide, by decide⟩ (by decide) (fun _ => rfl) rfl (Nat.le_of_ble_eq_true rfl) rfl (k_X5_demandIn ya hN (by omega) (fun j hj => by have z := hVT.2.2.2 j hj; unfold TQ at z; omega) ?_)
    exact xa_iret eX7_demand_19 rfl ⟨_, rfl, by have h9 := hA; unfold o_demand at h9; rw [if_pos c5] at h9; exact h9 _ rfl scr.rf⟩
  · exact xbv_S3 (mi' := mX7_checkRange) (y := yX7_checkRange) eX7_demand_5 (xw_4 lRX7_45 wy_X7_checkRange) rfl rfl ⟨wd_X7_checkRange, by decide, by decide⟩ (Nat.le_of_ble_eq_true rfl) rfl ⟨by decide, by decide⟩ (kt_X7_checkRange ya (by decide) (by decide) c5 (xt_out rfl (hB1 S (by unfold o_demand; rw [if_neg c5]) scr.rf)))
set_option maxHeartbeats 400000 in
theorem F_isBounded {w : xW} {S : xS} {B : String → xS → Prop} {A : Int → xS → Prop} {p b d : Int} {n N : Nat} {T : Int} (hV : VS 0 n N T S) (hT : T ≤ 800000) (yp : xr p) (yb : xr b) (yd : xr d)  (hA : ∀ S', (o_isBounded p b d n N S).1 = 0 → scr S' (o_isBounded p b d n N S).2.2.2.2 → A (o_isBounded p b d n N S).2.1 S') (hB1 : ∀ S', (o_isBounded p b d n N S).1 = 1 → scr S' S → B "java/lang/IllegalArgumentException" S') : Ki w mX7_isBounded yX7_isBounded 1 6 [xp 0 0, xi p, xi b, xi d] S A B := by
  refine K.of rfl rfl rfl rfl (Nat.le_of_ble_eq_true rfl) rfl ?_
  obtain ⟨hVT, hN20, h8, hg, hp, ho, hs⟩ := id hV
  have hn := hg.1
  have hN := hVT.1
  have ht := hVT.2.2.1
  refine xs_iload_1 eX7_isBounded_0 ?_
  refine xs_iload_2 eX7_isBounded_1 ?_
  refine xs_iload_3 eX7_isBounded_2 ?_
  by_cases c3 : wshP p b d
  · refine xbv_S30 (mi' := mX7_checkPromise) (y := yX7_checkPromise) eX7_isBounded_3 (xw_4 lRX7_98 wy_X7_checkPromise) rfl rfl ⟨wd_X7_checkPromise, by decide, by decide⟩ (Nat.le_of_ble_eq_true rfl) rfl (kk_X7_checkPromise yp yb yd c3 ?_)
    have hV2 : VT 5 (N + 1) T (addT 5 N (-1) p b d (cpyT 0 5 N S)) := hVT.cpy.add (by omega) (by have z := c3.1; omega) c3.2.1 (by have z := c3; omega)
    refine xs_aload_0 eX7_isBounded_6 ?_
    refine g_X7_4 eX7_isBounded_7 lRX7_30 ?_
    refine xs_aload_0 eX7_isBounded_10 ?_
    refine g_X7_0 eX7_isBounded_11 lRX7_10 ?_
    refine g_X4_0 eX7_isBounded_14 lRX7_88 ?_
    refine xbv_V10 (mi' := mX5_copyFrom) (y := yX5_copyFrom) eX7_isBounded_17 (xw_5 lRX7_119 wy_X5_copyFrom) rfl ⟨wd_X5_copyFrom, by decide, by decide⟩ (by decide) (fun _ => rfl) rfl (Nat.le_of_ble_eq_true rfl) rfl (f_X5_copyFrom (t := 0) (u := 5) (by decide) hVT (by omega) ?_)
    refine xs_aload_0 eX7_isBounded_20 ?_
    refine g_X7_4 eX7_isBounded_21 lRX7_30 ?_
    refine xa_iconst eX7_isBounded_24 ?_
    refine xs_iload_1 eX7_isBounded_25 ?_
    refine xs_iload_2 eX7_isBounded_26 ?_
    refine xs_iload_3 eX7_isBounded_27 ?_
    refine xbv_V40 (mi' := mX5_add) (y := yX5_add) eX7_isBounded_28 (xw_5 lRX7_108 wy_X5_add) rfl ⟨wd_X5_add, by decide, by decide⟩ (by decide) (fun _ => rfl) rfl (Nat.le_of_ble_eq_true rfl) rfl (f_X5_add hVT.cpy (by omega) (by omega) (by decide) (by have z := c3.1; omega) c3.2.1 (by have z := c3; omega) ?_)
    refine xs_aload_0 eX7_isBounded_31 ?_
    refine g_X7_4 eX7_isBounded_32 lRX7_30 ?_
    refine xbi_V00 (mi' := mX5_tightestTicks) (y := yX5_tightestTicks) eX7_isBounded_35 (xw_5 lRX7_156 wy_X5_tightestTicks) rfl ⟨wd_X5_tightestTicks, by decide, by decide⟩ (by decide) (fun _ => rfl) rfl (Nat.le_of_ble_eq_true rfl) rfl (k_X5_tightestTicks hV2.1 (by omega) (D := fun k : Nat => demF 5 (N + 1) (k : Int) (addT 5 N (-1) p b d (cpyT 0 5 N S))) rfl (fun k h1 h2 => ⟨fun j hj => by have z := hV2.2.2.2 j hj; unfold TQ at z; omega, by have z := demF_r hV2 (a := (k : Int)) (by omega); omega⟩) ?_)
    obtain ⟨D, hD9⟩ : ∃ D : Nat → Int, D = (fun k : Nat => demF 5 (N + 1) (k : Int) (addT 5 N (-1) p b d (cpyT 0 5 N S))) := ⟨_, rfl⟩
    rw [← hD9]
    have hti := tgt_in D 239
    have hmn := tgt_min D 239
    have hDk : ∀ k : Nat, D k = demF 0 N (k : Int) S + dmd p b d (k : Int) := fun k => by rw [hD9]; exact dem_add (by have z := c3.1; omega)
    refine xs_istore_4 eX7_isBounded_38 rfl ?_
    refine xs_aload_0 eX7_isBounded_40 ?_
    refine g_X7_4 eX7_isBounded_41 lRX7_30 ?_
    refine xs_iload_4 eX7_isBounded_44 ?_
    refine xbi_V10 (mi' := mX5_demandIn) (y := yX5_demandIn) eX7_isBounded_46 (xw_5 lRX7_153 wy_X5_demandIn) rfl ⟨wd_X5_demandIn, by decide, by decide⟩ (by decide) (fun _ => rfl) rfl (Nat.le_of_ble_eq_true rfl) rfl (k_X5_demandIn (by omega) hV2.1 (by omega) (fun j hj => by have z := hV2.2.2.2 j hj; unfold TQ at z; omega) ?_)
    rw [show sm (fun j => if (addT 5 N (-1) p b d (cpyT 0 5 N S)) 10 (32 * 5 + j) 0 = 0 then xdem (tgt D 239 : Int) ((addT 5 N (-1) p b d (cpyT 0 5 N S)) 10 (32 * 5 + j)) else 0) (N + 1) = D (tgt D 239) by rw [hD9]; rfl]
    have hzr : 0 ≤ D (tgt D 239) ∧ D (tgt D 239) ≤ 607320 := by rw [hD9]; exact demF_r hV2 (by rw [← hD9]; omega)
    refine xs_iload_4 eX7_isBounded_49 ?_
    refine xa_icmp_gt (tgt := 58) eX7_isBounded_51 (by decide) (by omega) (by omega) (fun c51 => ?_) (fun c51 => ?_)
    · refine xa_iconst eX7_isBounded_58 ?_
      exact xa_zret eX7_isBounded_59 rfl (by decide) ⟨_, rfl, by have h9 := hA; unfold o_isBounded at h9; rw [if_pos c3, b2i, if_neg (fun z => by have z2 := (bddF_iff 240).mp z (tgt D 239) (by omega) (by omega); rw [← hDk] at z2; omega)] at h9; exact h9 _ rfl (((addT_fr (by omega)).tr (cpyT_fr (by omega))).scr (by decide))⟩
    · refine xa_iconst eX7_isBounded_54 ?_
      refine xa_goto (tgt := 59) eX7_isBounded_55 (by decide) ?_
      exact xa_zret eX7_isBounded_59 rfl (by decide) ⟨_, rfl, by have h9 := hA; unfold o_isBounded at h9; rw [if_pos c3, b2i, if_pos ((bddF_iff 240).mpr (fun k h1 h2 => by have z := hmn k h1 (by omega); rw [← hDk]; omega))] at h9; exact h9 _ rfl (((addT_fr (by omega)).tr (cpyT_fr (by omega))).scr (by decide))⟩
  · exact xbv_S3 (mi' := mX7_checkPromise) (y := yX7_checkPromise) eX7_isBounded_3 (xw_4 lRX7_98 wy_X7_checkPromise) rfl rfl ⟨wd_X7_checkPromise, by decide, by decide⟩ (Nat.le_of_ble_eq_true rfl) rfl ⟨by decide, by decide⟩ (kt_X7_checkPromise yp yb yd c3 (xt_out rfl (hB1 S (by unfold o_isBounded; rw [if_neg c3]) scr.rf)))
