/-! demands -/
def demF (t N : Nat) (a : Int) (S : xS) : Int := sm (fun j => if S 10 (32 * t + j) 0 = 0 then xdem a (S 10 (32 * t + j)) else 0) N
def dmd (p b d t : Int) : Int := if t < d then 0 else b * (Int.tdiv (t - d) p + 1)
theorem xdem_r {t T a : Int} {F : Nat → Int} (h : TQ t T F) (ha : 0 ≤ a ∧ a ≤ 240) : 0 ≤ xdem a F ∧ xdem a F ≤ 28920 := by
  unfold TQ at h
  unfold xdem
  split
  · omega
  · rename_i c
    have h1 : 0 ≤ a - F 4 := by omega
    have h2 : 0 ≤ Int.tdiv (a - F 4) (F 2) := Int.tdiv_nonneg h1 (by omega)
    have h3 : Int.tdiv (a - F 4) (F 2) ≤ 240 := by
      rw [Int.tdiv_eq_ediv_of_nonneg h1]
      exact Int.le_trans (Int.ediv_le_self _ h1) (by omega)
    have h4 : 0 ≤ F 3 * (Int.tdiv (a - F 4) (F 2) + 1) := Int.mul_nonneg (by omega) (by omega)
    have h5 : F 3 * (Int.tdiv (a - F 4) (F 2) + 1) ≤ F 3 * 241 := Int.mul_le_mul_of_nonneg_left (by omega) (by omega)
    omega
theorem demF_r {t N : Nat} {T a : Int} {S : xS} (h : VT t N T S) (ha : 0 ≤ a ∧ a ≤ 240) : 0 ≤ demF t N a S ∧ demF t N a S ≤ 607320 := by
  have h9 := sm_range (g := fun j => if S 10 (32 * t + j) 0 = 0 then xdem a (S 10 (32 * t + j)) else 0) (lo := 0) (hi := 28920) (n := N) (fun j hj => by
    have h2 := xdem_r (h.2.2.2 j hj) ha
    split
    · exact h2
    · omega)
  have h21 := h.2.1
  unfold demF
  omega
theorem dmd_r {p b d t : Int} (hp : 1 ≤ p ∧ p ≤ 120) (hb : 1 ≤ b ∧ b ≤ 120) (hd : 1 ≤ d) (ht : 0 ≤ t ∧ t ≤ 240) : 0 ≤ dmd p b d t ∧ dmd p b d t ≤ 28920 := by
  unfold dmd
  split
  · omega
  · rename_i c
    have h1 : 0 ≤ t - d := by omega
    have h2 : 0 ≤ Int.tdiv (t - d) p := Int.tdiv_nonneg h1 (by omega)
    have h3 : Int.tdiv (t - d) p ≤ 240 := by
      rw [Int.tdiv_eq_ediv_of_nonneg h1]
      exact Int.le_trans (Int.ediv_le_self _ h1) (by omega)
    have h4 : 0 ≤ b * (Int.tdiv (t - d) p + 1) := Int.mul_nonneg (by omega) (by omega)
    have h5 : b * (Int.tdiv (t - d) p + 1) ≤ b * 241 := Int.mul_le_mul_of_nonneg_left (by omega) (by omega)
    omega
theorem tgt_min (D : Nat → Int) : ∀ i k : Nat, 1 ≤ k → k ≤ i + 1 → (tgt D i : Int) - D (tgt D i) ≤ (k : Int) - D k
  | 0, k, h1, h2 => by
    obtain rfl : k = 1 := by omega
    exact Int.le_refl _
  | i + 1, k, h1, h2 => by
    by_cases e : k = i + 2
    · subst e
      rw [tgt]
      split
      · exact Int.le_refl _
      · rename_i c; omega
    · have h9 := tgt_min D i k h1 (by omega)
      rw [tgt]
      split
      · rename_i c; omega
      · exact h9
def bddF (N : Nat) (p b d : Int) (C : xS) : Nat → Bool
  | 0 => true
  | i + 1 => bddF N p b d C i && decide (demF 0 N ((i + 1 : Nat) : Int) C + dmd p b d ((i + 1 : Nat) : Int) ≤ ((i + 1 : Nat) : Int))
theorem bddF_iff {N : Nat} {p b d : Int} {C : xS} : ∀ i : Nat, bddF N p b d C i = true ↔ ∀ k : Nat, 1 ≤ k → k ≤ i → demF 0 N (k : Int) C + dmd p b d (k : Int) ≤ (k : Int)
  | 0 => ⟨fun _ k h1 h2 => by omega, fun _ => rfl⟩
  | i + 1 => by
    rw [bddF, Bool.and_eq_true, bddF_iff i, decide_eq_true_iff]
    refine ⟨fun h k h1 h2 => ?_, fun h => ⟨fun k h1 h2 => h k h1 (by omega), h (i + 1) (by omega) (Nat.le_refl _)⟩⟩
    by_cases e : k = i + 1
    · subst e; exact h.2
    · exact h.1 k h1 (by omega)
theorem dem_add {N : Nat} {o p b d a : Int} {S : xS} (hp : 1 ≤ p) : demF 5 (N + 1) a (addT 5 N o p b d (cpyT 0 5 N S)) = demF 0 N a S + dmd p b d a := by
  unfold demF
  rw [sm_s]
  have e1 : sm (fun j => if addT 5 N o p b d (cpyT 0 5 N S) 10 (32 * 5 + j) 0 = 0 then xdem a (addT 5 N o p b d (cpyT 0 5 N S) 10 (32 * 5 + j)) else 0) N = sm (fun j => if S 10 (32 * 0 + j) 0 = 0 then xdem a (S 10 (32 * 0 + j)) else 0) N := sm_congr (fun j hj => by
    have er : addT 5 N o p b d (cpyT 0 5 N S) 10 (32 * 5 + j) = S 10 (32 * 0 + j) := by
      funext f
      unfold addT
      rw [if_neg (by omega), if_neg (by omega)]
      unfold cpyT
      rw [if_neg (by omega), if_neg (by omega), if_pos ⟨rfl, by omega, by omega⟩, Nat.add_sub_cancel_left]
    rw [er])
  have e2 : addT 5 N o p b d (cpyT 0 5 N S) 10 (32 * 5 + N) = xbeg o p b d (cpyT 0 5 N S 2 5 2) := by
    funext f
    unfold addT
    rw [if_neg (by omega), if_pos ⟨rfl, rfl⟩]
  rw [e1, e2]
  have e3 : xbeg o p b d (cpyT 0 5 N S 2 5 2) 0 = 0 := rfl
  rw [if_pos e3]
  have e4 : xdem a (xbeg o p b d (cpyT 0 5 N S 2 5 2)) = dmd p b d a := by
    show (if a < d ∨ p < 1 then 0 else b * (Int.tdiv (a - d) p + 1)) = _
    unfold dmd
    by_cases c : a < d
    · rw [if_pos (Or.inl c), if_pos c]
    · rw [if_neg (by omega), if_neg c]
  rw [e4]
def o_demand (a : Int) (n N : Nat) (C : xS) : xO := if 1 ≤ a ∧ a ≤ 240 then (0, demF 0 N a C, n, N, C) else (1, 0, n, N, C)
def o_tightest (n N : Nat) (C : xS) : xO := (0, (tgt (fun k : Nat => demF 0 N (k : Int) C) 239 : Int), n, N, C)
def o_isBounded (p b d : Int) (n N : Nat) (C : xS) : xO := if wshP p b d then (0, b2i (bddF N p b d C 240 = true), n, N, C) else (1, 0, n, N, C)
set_option maxHeartbeats 400000 in
theorem F_demand {w : xW} {S : xS} {B : String → xS → Prop} {A : Int → xS → Prop} {a : Int} {n N : Nat} {T : Int} (hV : VS 0 n N T S) (hT : T ≤ 800000) (ya : xr a)  (hA : ∀ S', (o_demand a n N S).1 = 0 → scr S' (o_demand a n N S).2.2.2.2 → A (o_demand a n N S).2.1 S') (hB1 : ∀ S', (o_demand a n N S).1 = 1 → scr S' S → B "java/lang/IllegalArgumentException" S') : Ki w mX7_demand yX7_demand 1 6 [xp 0 0, xi a] S A B := by
  refine K.of rfl rfl rfl rfl (Nat.le_of_ble_eq_true rfl) rfl ?_
  obtain ⟨hVT, hN20, h8, hg, hp, ho, hs⟩ := id hV
  have hn := hg.1
  have hN := hVT.1
  have ht := hVT.2.2.1
  refine xs_iload_1 eX7_demand_0 ?_
  refine xa_iconst eX7_demand_1 ?_
  refine xa_sipush eX7_demand_2 (by decide) ?_
  by_cases c5 : 1 ≤ a ∧ a ≤ 240
  · refine xbv_S30 (mi' := mX7_checkRange) (y := yX7_checkRange) eX7_demand_5 (xw_4 lRX7_45 wy_X7_checkRange) rfl rfl ⟨wd_X7_checkRange, by decide, by decide⟩ (Nat.le_of_ble_eq_true rfl) rfl (kk_X7_checkRange ya (by decide) (by decide) c5 ?_)
    refine xs_aload_0 eX7_demand_8 ?_
    refine g_X7_0 eX7_demand_9 lRX7_10 ?_
    refine g_X4_0 eX7_demand_12 lRX7_88 ?_
    refine xs_iload_1 eX7_demand_15 ?_
    refine xbi_V10 (mi' := mX5_demandIn) (y := yX5_demandIn) eX7_demand_16 (xw_5 lRX7_153 wy_X5_demandIn) rfl ⟨wd_X5_demandIn, by decide, by decide⟩ (by decide) (fun _ => rfl) rfl (Nat.le_of_ble_eq_true rfl) rfl (k_X5_demandIn ya hN (by omega) (fun j hj => by have z := hVT.2.2.2 j hj; unfold TQ at z; omega) ?_)
    exact xa_iret eX7_demand_19 rfl ⟨_, rfl, by have h9 := hA; unfold o_demand at h9; rw [if_pos c5] at h9; exact h9 _ rfl scr.rf⟩
  · exact xbv_S3 (mi' := mX7_checkRange) (y := yX7_checkRange) eX7_demand_5 (xw_4 lRX7_45 wy_X7_checkRange) rfl rfl ⟨wd_X7_checkRange, by decide, by decide⟩ (Nat.le_of_ble_eq_true rfl) rfl ⟨by decide, by decide⟩ (kt_X7_checkRange ya (by decide) (by decide) c5 (xt_out rfl (hB1 S (by unfold o_demand; rw [if_neg c5]) scr.rf)))
set_option maxHeartbeats 400000 in
theorem k_X8_demandOf {w : xW} {S : xS} {B : String → xS → Prop} {A : Int → xS → Prop} {p b d t : Int} (hp : 1 ≤ p ∧ p ≤ 120) (hd : 0 ≤ d ∧ d ≤ 120) (ht : 0 ≤ t ∧ t ≤ 240) (hq : A (dmd p b d t) S) : Ki w mX8_demandOf yX8_demandOf 0 0 [xi p, xi b, xi d, xi t] S A B := by
  refine K.of rfl rfl rfl rfl (Nat.le_of_ble_eq_true rfl) rfl ?_
  refine xs_iload_2 eX8_demandOf_0 ?_
  refine xs_iload_3 eX8_demandOf_1 ?_
  refine xa_icmp_le (tgt := 9) eX8_demandOf_2 (by decide) (by omega) (by omega) (fun c2 => ?_) (fun c2 => ?_)
  · refine xs_iload_1 eX8_demandOf_9 ?_
    refine xs_iload_3 eX8_demandOf_10 ?_
    refine xs_iload_2 eX8_demandOf_11 ?_
    refine xa_isub eX8_demandOf_12 ?_
    refine xs_iload_0 eX8_demandOf_13 ?_
    refine xa_idiv eX8_demandOf_14 (by omega) (by omega) (by omega) ?_
    refine xa_iconst eX8_demandOf_15 ?_
    refine xa_iadd eX8_demandOf_16 ?_
    refine xa_imul eX8_demandOf_17 ?_
    exact xa_iret eX8_demandOf_18 rfl ⟨_, rfl, by rw [dmd, if_neg (by omega)] at hq; exact hq⟩
  · refine xa_iconst eX8_demandOf_5 ?_
    refine xa_goto (tgt := 18) eX8_demandOf_6 (by decide) ?_
    exact xa_iret eX8_demandOf_18 rfl ⟨_, rfl, by rw [dmd, if_pos (by omega)] at hq; exact hq⟩
set_option maxHeartbeats 400000 in
theorem r_X8_demandIn {w : xW} {S : xS} {B : String → xS → Prop} {A : Int → xS → Prop} {n N : Nat} {T a : Int} {C : xS} {M : Nat → Int} (hV : VS 0 n N T C) (hR : Rel 0 n N C M) (ha : 0 ≤ a ∧ a ≤ 240) (hq : A (demF 0 N a C) (stM M S)) : Ki w mX8_demandIn yX8_demandIn 0 0 [xp 30 0, xi a] (stM M S) A B := by
  refine K.of rfl rfl rfl rfl (Nat.le_of_ble_eq_true rfl) rfl ?_
  obtain ⟨hVT, hN20, h8, hg, hp9, ho9, hs⟩ := id hV
  have hn := hg.1
  have hN := hVT.1
  have ht := hVT.2.2.1
  have hM1 : M 1 = (n : Int) := by rw [hR.1 1 (by decide)]; exact hn
  have hM2 : M 2 = (N : Int) := by rw [hR.1 2 (by decide)]; exact hN
  have lp : ∀ i : Nat, i ≤ N →  X w mX8_demandIn (xTG w (fun v S' => ∃ a, v = some (xi a) ∧ A a S') B) 0 0 4 [xp 30 0, xi a, xi (demF 0 i a C), xi (i : Int)] [] (stM M S) := by
    refine nloop (N) (fun i hi ih  => ?_)
    have hT9 : i < N → TQ (C 2 0 2) T (C 10 (32 * 0 + i)) := fun z => hV.t z
    unfold TQ at hT9
    refine xs_iload_3 eX8_demandIn_4 ?_
    refine xa_i2l eX8_demandIn_5 (by omega) ?_
    refine xs_aload_0 eX8_demandIn_6 ?_
    refine g_X8_0 eX8_demandIn_7 lRX8_7 ?_
    refine xa_iconst eX8_demandIn_10 ?_
    refine gar_31 eX8_demandIn_11 (by decide) (fun r11 => ?_)
    try simp (decide := true) only [stM_31, stM_k, up_same, hM1, hM2, show (0 : Int).toNat = 0 from rfl, show (1 : Int).toNat = 1 from rfl, show (2 : Int).toNat = 2 from rfl, show (3 : Int).toNat = 3 from rfl, show (4 : Int).toNat = 4 from rfl, show (5 : Int).toNat = 5 from rfl, show (6 : Int).toNat = 6 from rfl, show (7 : Int).toNat = 7 from rfl, show (8 : Int).toNat = 8 from rfl, show (9 : Int).toNat = 9 from rfl, show (10 : Int).toNat = 10 from rfl, show (11 : Int).toNat = 11 from rfl, show (12 : Int).toNat = 12 from rfl, show (13 : Int).toNat = 13 from rfl, show (14 : Int).toNat = 14 from rfl, Int.toNat_natCast] at r11 ⊢
    refine xa_lcmp eX8_demandIn_12 (by omega) (by omega) ?_
    refine xa_ifc_ge (tgt := 59) eX8_demandIn_13 (by decide) (fun c13 => ?_) (fun c13 => ?_)
    · refine xs_iload_2 eX8_demandIn_59 ?_
      exact xa_iret eX8_demandIn_60 rfl ⟨_, rfl, by rw [show i = N by omega]; exact hq⟩
    · refine xs_iload_2 eX8_demandIn_16 ?_
      refine xs_aload_0 eX8_demandIn_17 ?_
      refine xs_iload_3 eX8_demandIn_18 ?_
      refine xbi_V10 (mi' := mX8_hasEnded) (y := yX8_hasEnded) eX8_demandIn_19 (xw_5 lRX8_119 wy_X8_hasEnded) rfl ⟨wd_X8_hasEnded, by decide, by decide⟩ (by decide) (fun _ => rfl) rfl (Nat.le_of_ble_eq_true rfl) rfl (r_X8_hasEnded (j := i) hV hR rfl (by omega) ?_)
      refine xa_ifb_eq (tgt := 29) eX8_demandIn_22 (by decide) (fun c22 => ?_) (fun c22 => ?_)
      · refine xs_aload_0 eX8_demandIn_29 ?_
        refine xs_iload_3 eX8_demandIn_30 ?_
        refine xa_iconst eX8_demandIn_31 ?_
        refine xbi_V20 (mi' := mX8_told0) (y := yX8_told0) eX8_demandIn_32 (xw_5 lRX8_122 wy_X8_told0) rfl ⟨wd_X8_told0, by decide, by decide⟩ (by decide) (fun _ => rfl) rfl (Nat.le_of_ble_eq_true rfl) rfl (r_X8_told0 (j := i) (g := 2) hR rfl rfl (by omega) hN20 (by decide) (by decide) (by decide) (by decide) ?_)
        refine xs_aload_0 eX8_demandIn_35 ?_
        refine xs_iload_3 eX8_demandIn_36 ?_
        refine xa_iconst eX8_demandIn_37 ?_
        refine xbi_V20 (mi' := mX8_told0) (y := yX8_told0) eX8_demandIn_38 (xw_5 lRX8_122 wy_X8_told0) rfl ⟨wd_X8_told0, by decide, by decide⟩ (by decide) (fun _ => rfl) rfl (Nat.le_of_ble_eq_true rfl) rfl (r_X8_told0 (j := i) (g := 3) hR rfl rfl (by omega) hN20 (by decide) (by decide) (by decide) (by decide) ?_)
        refine xs_aload_0 eX8_demandIn_41 ?_
        refine xs_iload_3 eX8_demandIn_42 ?_
        refine xa_iconst eX8_demandIn_43 ?_
        refine xbi_V20 (mi' := mX8_told0) (y := yX8_told0) eX8_demandIn_44 (xw_5 lRX8_122 wy_X8_told0) rfl ⟨wd_X8_told0, by decide, by decide⟩ (by decide) (fun _ => rfl) rfl (Nat.le_of_ble_eq_true rfl) rfl (r_X8_told0 (j := i) (g := 4) hR rfl rfl (by omega) hN20 (by decide) (by decide) (by decide) (by decide) ?_)
        refine xs_iload_1 eX8_demandIn_47 ?_
        refine xbi_S40 (mi' := mX8_demandOf) (y := yX8_demandOf) eX8_demandIn_48 (xw_4 lRX8_197 wy_X8_demandOf) rfl rfl ⟨wd_X8_demandOf, by decide, by decide⟩ (Nat.le_of_ble_eq_true rfl) rfl (k_X8_demandOf (by omega) (by omega) ha ?_)
        refine xa_iadd eX8_demandIn_51 ?_
        refine xs_istore_2 eX8_demandIn_52 rfl ?_
        refine xs_iinc_3 eX8_demandIn_53 rfl ?_
        refine xa_goto (tgt := 4) eX8_demandIn_56 (by decide) ?_
        have e : dmd (C 10 (32 * 0 + i) 2) (C 10 (32 * 0 + i) 3) (C 10 (32 * 0 + i) 4) a = xdem a (C 10 (32 * 0 + i)) := by
          unfold dmd xdem
          by_cases c : a < C 10 (32 * 0 + i) 4
          · rw [if_pos c, if_pos (Or.inl c)]
          · rw [if_neg c, if_neg (by omega)]
        have h9 := ih (i + 1) (by omega) (by omega)
        rw [show demF 0 (i + 1) a C = demF 0 i a C + (if C 10 (32 * 0 + i) 0 = 0 then xdem a (C 10 (32 * 0 + i)) else 0) from rfl, if_pos (by omega), ← e] at h9
        exact h9
      · refine xa_iconst eX8_demandIn_25 ?_
        refine xa_goto (tgt := 51) eX8_demandIn_26 (by decide) ?_
        refine xa_iadd eX8_demandIn_51 ?_
        refine xs_istore_2 eX8_demandIn_52 rfl ?_
        refine xs_iinc_3 eX8_demandIn_53 rfl ?_
        refine xa_goto (tgt := 4) eX8_demandIn_56 (by decide) ?_
        have h9 := ih (i + 1) (by omega) (by omega)
        rw [show demF 0 (i + 1) a C = demF 0 i a C + (if C 10 (32 * 0 + i) 0 = 0 then xdem a (C 10 (32 * 0 + i)) else 0) from rfl, if_neg (by omega)] at h9
        exact h9
  refine xa_iconst eX8_demandIn_0 ?_
  refine xs_istore_2 eX8_demandIn_1 rfl ?_
  refine xa_iconst eX8_demandIn_2 ?_
  refine xs_istore_3 eX8_demandIn_3 rfl ?_
  exact lp 0 (by omega)
set_option maxHeartbeats 400000 in
theorem G_demand {w : xW} {S : xS} {B : String → xS → Prop} {A : Int → xS → Prop} {a : Int} {n N : Nat} {T : Int} {C : xS} {M : Nat → Int} (hV : VS 0 n N T C) (hT : T ≤ 800000) (hR : Rel 0 n N C M) (ya : xr a)  (hq : ∀ r S' M', ((o_demand a n N C).1 = 0 → r = (o_demand a n N C).2.1) → rfr S' S → S' 30 0 4 = ((o_demand a n N C).1 : Int) → Rel 0 (o_demand a n N C).2.2.1 (o_demand a n N C).2.2.2.1 (o_demand a n N C).2.2.2.2 M' → A r (stM M' S')) : Ki w mX8_demand yX8_demand 0 0 [xp 30 0, xi a] (stM M S) A B := by
  refine K.of rfl rfl rfl rfl (Nat.le_of_ble_eq_true rfl) rfl ?_
  obtain ⟨hVT, hN20, h8, hg, hp, ho, hs⟩ := id hV
  have hn := hg.1
  have hN := hVT.1
  have ht := hVT.2.2.1
  have hM1 : M 1 = (n : Int) := by rw [hR.1 1 (by decide)]; exact hn
  have hM2 : M 2 = (N : Int) := by rw [hR.1 2 (by decide)]; exact hN
  refine xs_aload_0 eX8_demand_0 ?_
  refine xa_iconst eX8_demand_1 ?_
  refine p_X8_4 eX8_demand_2 lRX8_52 (by decide) ?_
  rw [up_stO (by decide)]
  refine xs_iload_1 eX8_demand_5 ?_
  refine xa_i2l eX8_demand_6 (by omega) ?_
  refine xa_lconst1 eX8_demand_7 ?_
  refine xa_ldc2 (a := 240) eX8_demand_8 lRX8_200 (by decide) ?_
  refine xbi_S30 (mi' := mX8_isBetween) (y := yX8_isBetween) eX8_demand_11 (xw_4 lRX8_61 wy_X8_isBetween) rfl rfl ⟨wd_X8_isBetween, by decide, by decide⟩ (Nat.le_of_ble_eq_true rfl) rfl (k_X8_isBetween (by omega) (by decide) (by decide) ?_)
  refine xa_ifb_eq (tgt := 25) eX8_demand_14 (by decide) (fun c14 => ?_) (fun c14 => ?_)
  · refine xs_aload_0 eX8_demand_25 ?_
    refine xa_iconst eX8_demand_26 ?_
    refine xbi_V10 (mi' := mX8_fail) (y := yX8_fail) eX8_demand_27 (xw_5 lRX8_89 wy_X8_fail) rfl ⟨wd_X8_fail, by decide, by decide⟩ (by decide) (fun _ => rfl) rfl (Nat.le_of_ble_eq_true rfl) rfl (k_X8_fail (by decide) ?_)
    rw [up_stO (by decide)]
    exact xa_iret eX8_demand_30 rfl ⟨_, rfl, by have h9 := hq; unfold o_demand at h9; rw [if_neg c14] at h9; exact h9 _ _ _ (fun z => absurd z (Nat.succ_ne_zero _)) (rfr.t.tr rfr.t) (by rw [up_same]; rfl) hR⟩
  · refine xs_aload_0 eX8_demand_17 ?_
    refine xs_iload_1 eX8_demand_18 ?_
    refine xbi_V10 (mi' := mX8_demandIn) (y := yX8_demandIn) eX8_demand_19 (xw_5 lRX8_202 wy_X8_demandIn) rfl ⟨wd_X8_demandIn, by decide, by decide⟩ (by decide) (fun _ => rfl) rfl (Nat.le_of_ble_eq_true rfl) rfl (r_X8_demandIn hV hR (by omega) ?_)
    refine xa_goto (tgt := 30) eX8_demand_22 (by decide) ?_
    exact xa_iret eX8_demand_30 rfl ⟨_, rfl, by have h9 := hq; unfold o_demand at h9; rw [if_pos c14] at h9; exact h9 _ _ _ (fun _ => rfl) rfr.t (by rw [up_same]; rfl) hR⟩
set_option maxHeartbeats 400000 in
theorem F_tightest {w : xW} {S : xS} {B : String → xS → Prop} {A : Int → xS → Prop} {n N : Nat} {T : Int} (hV : VS 0 n N T S) (hT : T ≤ 800000)   (hA : ∀ S', (o_tightest n N S).1 = 0 → scr S' (o_tightest n N S).2.2.2.2 → A (o_tightest n N S).2.1 S') : Ki w mX7_tightest yX7_tightest 0 0 [xp 0 0] S A B := by
  refine K.of rfl rfl rfl rfl (Nat.le_of_ble_eq_true rfl) rfl ?_
  obtain ⟨hVT, hN20, h8, hg, hp, ho, hs⟩ := id hV
  have hn := hg.1
  have hN := hVT.1
  have ht := hVT.2.2.1
  refine xs_aload_0 eX7_tightest_0 ?_
  refine g_X7_0 eX7_tightest_1 lRX7_10 ?_
  refine g_X4_0 eX7_tightest_4 lRX7_88 ?_
  refine xbi_V00 (mi' := mX5_tightestTicks) (y := yX5_tightestTicks) eX7_tightest_7 (xw_5 lRX7_156 wy_X5_tightestTicks) rfl ⟨wd_X5_tightestTicks, by decide, by decide⟩ (by decide) (fun _ => rfl) rfl (Nat.le_of_ble_eq_true rfl) rfl (k_X5_tightestTicks hN (by omega) (D := fun k : Nat => demF 0 N (k : Int) S) rfl (fun k h1 h2 => ⟨fun j hj => by have z := hVT.2.2.2 j hj; unfold TQ at z; omega, by have z := demF_r hVT (a := (k : Int)) (by omega); omega⟩) ?_)
  exact xa_iret eX7_tightest_10 rfl ⟨_, rfl, by have h9 := hA; unfold o_tightest at h9; exact h9 _ rfl scr.rf⟩
set_option maxHeartbeats 400000 in
theorem G_tightest {w : xW} {S : xS} {B : String → xS → Prop} {A : Int → xS → Prop} {n N : Nat} {T : Int} {C : xS} {M : Nat → Int} (hV : VS 0 n N T C) (hT : T ≤ 800000) (hR : Rel 0 n N C M)   (hq : ∀ r S' M', ((o_tightest n N C).1 = 0 → r = (o_tightest n N C).2.1) → rfr S' S → S' 30 0 4 = ((o_tightest n N C).1 : Int) → Rel 0 (o_tightest n N C).2.2.1 (o_tightest n N C).2.2.2.1 (o_tightest n N C).2.2.2.2 M' → A r (stM M' S')) : Ki w mX8_tightest yX8_tightest 0 0 [xp 30 0] (stM M S) A B := by
  refine K.of rfl rfl rfl rfl (Nat.le_of_ble_eq_true rfl) rfl ?_
  obtain ⟨hVT, hN20, h8, hg, hp, ho, hs⟩ := id hV
  have hn := hg.1
  have hN := hVT.1
  have ht := hVT.2.2.1
  have hM1 : M 1 = (n : Int) := by rw [hR.1 1 (by decide)]; exact hn
  have hM2 : M 2 = (N : Int) := by rw [hR.1 2 (by decide)]; exact hN
  obtain ⟨D, hD9⟩ : ∃ D : Nat → Int, D = (fun k : Nat => demF 0 N (k : Int) C) := ⟨_, rfl⟩
  have lp : ∀ i : Nat, i ≤ 239 →  X w mX8_tightest (xTG w (fun v S' => ∃ a, v = some (xi a) ∧ A a S') B) 0 0 9 [xp 30 0, xi (tgt D i : Int), xi ((i : Int) + 2)] [] (stM M (up S 30 0 4 0)) := by
    refine nloop (239) (fun i hi ih  => ?_)
    have hti := tgt_in D i
    refine xs_iload_2 eX8_tightest_9 ?_
    refine xa_sipush eX8_tightest_10 (by decide) ?_
    refine xa_icmp_gt (tgt := 45) eX8_tightest_13 (by decide) (by omega) (by decide) (fun c13 => ?_) (fun c13 => ?_)
    · refine xs_iload_1 eX8_tightest_45 ?_
      exact xa_iret eX8_tightest_46 rfl ⟨_, rfl, by have h9 := hq; unfold o_tightest at h9; exact h9 _ _ _ (fun _ => by rw [show i = 239 by omega, hD9]) rfr.t (by rw [up_same]; rfl) hR⟩
    · have hz1 := demF_r hVT (a := (i : Int) + 2) (by omega)
      have hz2 := demF_r hVT (a := (tgt D i : Int)) (by omega)
      refine xs_iload_2 eX8_tightest_16 ?_
      refine xs_aload_0 eX8_tightest_17 ?_
      refine xs_iload_2 eX8_tightest_18 ?_
      refine xbi_V10 (mi' := mX8_demandIn) (y := yX8_demandIn) eX8_tightest_19 (xw_5 lRX8_202 wy_X8_demandIn) rfl ⟨wd_X8_demandIn, by decide, by decide⟩ (by decide) (fun _ => rfl) rfl (Nat.le_of_ble_eq_true rfl) rfl (r_X8_demandIn hV hR (by omega) ?_)
      refine xa_isub eX8_tightest_22 ?_
      refine xs_iload_1 eX8_tightest_23 ?_
      refine xs_aload_0 eX8_tightest_24 ?_
      refine xs_iload_1 eX8_tightest_25 ?_
      refine xbi_V10 (mi' := mX8_demandIn) (y := yX8_demandIn) eX8_tightest_26 (xw_5 lRX8_202 wy_X8_demandIn) rfl ⟨wd_X8_demandIn, by decide, by decide⟩ (by decide) (fun _ => rfl) rfl (Nat.le_of_ble_eq_true rfl) rfl (r_X8_demandIn hV hR (by omega) ?_)
      refine xa_isub eX8_tightest_29 ?_
      refine xa_icmp_ge (tgt := 37) eX8_tightest_30 (by decide) (by omega) (by omega) (fun c30 => ?_) (fun c30 => ?_)
      · refine xs_iload_1 eX8_tightest_37 ?_
        refine xs_istore_1 eX8_tightest_38 rfl ?_
        refine xs_iinc_2 eX8_tightest_39 rfl ?_
        refine xa_goto (tgt := 9) eX8_tightest_42 (by decide) ?_
        have e : tgt D (i + 1) = if ((i + 2 : Nat) : Int) - demF 0 N ((i + 2 : Nat) : Int) C < (tgt D i : Int) - demF 0 N (tgt D i : Int) C then i + 2 else tgt D i := by rw [tgt, hD9]
        rw [show ((i + 2 : Nat) : Int) = (i : Int) + 2 by omega, if_neg (by omega)] at e
        have h9 := ih (i + 1) (by omega) (by omega)
        rw [e] at h9
        rw [show (i : Int) + 2 + 1 = ((i + 1 : Nat) : Int) + 2 by omega]
        exact h9
      · refine xs_iload_2 eX8_tightest_33 ?_
        refine xa_goto (tgt := 38) eX8_tightest_34 (by decide) ?_
        refine xs_istore_1 eX8_tightest_38 rfl ?_
        refine xs_iinc_2 eX8_tightest_39 rfl ?_
        refine xa_goto (tgt := 9) eX8_tightest_42 (by decide) ?_
        have e : tgt D (i + 1) = if ((i + 2 : Nat) : Int) - demF 0 N ((i + 2 : Nat) : Int) C < (tgt D i : Int) - demF 0 N (tgt D i : Int) C then i + 2 else tgt D i := by rw [tgt, hD9]
        rw [show ((i + 2 : Nat) : Int) = (i : Int) + 2 by omega, if_pos (by omega)] at e
        have h9 := ih (i + 1) (by omega) (by omega)
        rw [e] at h9
        rw [show (i : Int) + 2 + 1 = ((i + 1 : Nat) : Int) + 2 by omega]
        rw [show ((i + 2 : Nat) : Int) = (i : Int) + 2 by omega] at h9
        exact h9
  refine xs_aload_0 eX8_tightest_0 ?_
  refine xa_iconst eX8_tightest_1 ?_
  refine p_X8_4 eX8_tightest_2 lRX8_52 (by decide) ?_
  rw [up_stO (by decide)]
  refine xa_iconst eX8_tightest_5 ?_
  refine xs_istore_1 eX8_tightest_6 rfl ?_
  refine xa_iconst eX8_tightest_7 ?_
  refine xs_istore_2 eX8_tightest_8 rfl ?_
  exact lp 0 (by omega)
set_option maxHeartbeats 400000 in
theorem F_isBounded {w : xW} {S : xS} {B : String → xS → Prop} {A : Int → xS → Prop} {p b d : Int} {n N : Nat} {T : Int} (hV : VS 0 n N T S) (hT : T ≤ 800000) (yp : xr p) (yb : xr b) (yd : xr d)  (hA : ∀ S', (o_isBounded p b d n N S).1 = 0 → scr S' (o_isBounded p b d n N S).2.2.2.2 → A (o_isBounded p b d n N S).2.1 S') (hB1 : ∀ S', (o_isBounded p b d n N S).1 = 1 → scr S' S → B "java/lang/IllegalArgumentException" S') : Ki w mX7_isBounded yX7_isBounded 1 6 [xp 0 0, xi p, xi b, xi d] S A B := by
  refine K.of rfl rfl rfl rfl (Nat.le_of_ble_eq_true rfl) rfl ?_
  obtain ⟨hVT, hN20, h8, hg, hp, ho, hs⟩ := id hV
  have hn := hg.1
  have hN := hVT.1
  have ht := hVT.2.2.1
  refine xs_iload_1 eX7_isBounded_0 ?_
  refine xs_iload_2 eX7_isBounded_1 ?_
  refine xs_iload_3 eX7_isBounded_2 ?_
  by_cases c3 : wshP p b d
  · refine xbv_S30 (mi' := mX7_checkPromise) (y := yX7_checkPromise) eX7_isBounded_3 (xw_4 lRX7_98 wy_X7_checkPromise) rfl rfl ⟨wd_X7_checkPromise, by decide, by decide⟩ (Nat.le_of_ble_eq_true rfl) rfl (kk_X7_checkPromise yp yb yd c3 ?_)
    have hV2 : VT 5 (N + 1) T (addT 5 N (-1) p b d (cpyT 0 5 N S)) := hVT.cpy.add (by omega) (by have z := c3.1; omega) c3.2.1 (by have z := c3; omega)
    refine xs_aload_0 eX7_isBounded_6 ?_
    refine g_X7_4 eX7_isBounded_7 lRX7_30 ?_
    refine xs_aload_0 eX7_isBounded_10 ?_
    refine g_X7_0 eX7_isBounded_11 lRX7_10 ?_
    refine g_X4_0 eX7_isBounded_14 lRX7_88 ?_
    refine xbv_V10 (mi' := mX5_copyFrom) (y := yX5_copyFrom) eX7_isBounded_17 (xw_5 lRX7_119 wy_X5_copyFrom) rfl ⟨wd_X5_copyFrom, by decide, by decide⟩ (by decide) (fun _ => rfl) rfl (Nat.le_of_ble_eq_true rfl) rfl (f_X5_copyFrom (t := 0) (u := 5) (by decide) hVT (by omega) ?_)
    refine xs_aload_0 eX7_isBounded_20 ?_
    refine g_X7_4 eX7_isBounded_21 lRX7_30 ?_
    refine xa_iconst eX7_isBounded_24 ?_
    refine xs_iload_1 eX7_isBounded_25 ?_
    refine xs_iload_2 eX7_isBounded_26 ?_
    refine xs_iload_3 eX7_isBounded_27 ?_
    refine xbv_V40 (mi' := mX5_add) (y := yX5_add) eX7_isBounded_28 (xw_5 lRX7_108 wy_X5_add) rfl ⟨wd_X5_add, by decide, by decide⟩ (by decide) (fun _ => rfl) rfl (Nat.le_of_ble_eq_true rfl) rfl (f_X5_add hVT.cpy (by omega) (by omega) (by decide) (by have z := c3.1; omega) c3.2.1 (by have z := c3; omega) ?_)
    refine xs_aload_0 eX7_isBounded_31 ?_
    refine g_X7_4 eX7_isBounded_32 lRX7_30 ?_
    refine xbi_V00 (mi' := mX5_tightestTicks) (y := yX5_tightestTicks) eX7_isBounded_35 (xw_5 lRX7_156 wy_X5_tightestTicks) rfl ⟨wd_X5_tightestTicks, by decide, by decide⟩ (by decide) (fun _ => rfl) rfl (Nat.le_of_ble_eq_true rfl) rfl (k_X5_tightestTicks hV2.1 (by omega) (D := fun k : Nat => demF 5 (N + 1) (k : Int) (addT 5 N (-1) p b d (cpyT 0 5 N S))) rfl (fun k h1 h2 => ⟨fun j hj => by have z := hV2.2.2.2 j hj; unfold TQ at z; omega, by have z := demF_r hV2 (a := (k : Int)) (by omega); omega⟩) ?_)
    obtain ⟨D, hD9⟩ : ∃ D : Nat → Int, D = (fun k : Nat => demF 5 (N + 1) (k : Int) (addT 5 N (-1) p b d (cpyT 0 5 N S))) := ⟨_, rfl⟩
    rw [← hD9]
    have hti := tgt_in D 239
    have hmn := tgt_min D 239
    have hDk : ∀ k : Nat, D k = demF 0 N (k : Int) S + dmd p b d (k : Int) := fun k => by rw [hD9]; exact dem_add (by have z := c3.1; omega)
    refine xs_istore_4 eX7_isBounded_38 rfl ?_
    refine xs_aload_0 eX7_isBounded_40 ?_
    refine g_X7_4 eX7_isBounded_41 lRX7_30 ?_
    refine xs_iload_4 eX7_isBounded_44 ?_
    refine xbi_V10 (mi' := mX5_demandIn) (y := yX5_demandIn) eX7_isBounded_46 (xw_5 lRX7_153 wy_X5_demandIn) rfl ⟨wd_X5_demandIn, by decide, by decide⟩ (by decide) (fun _ => rfl) rfl (Nat.le_of_ble_eq_true rfl) rfl (k_X5_demandIn (by omega) hV2.1 (by omega) (fun j hj => by have z := hV2.2.2.2 j hj; unfold TQ at z; omega) ?_)
    rw [show sm (fun j => if (addT 5 N (-1) p b d (cpyT 0 5 N S)) 10 (32 * 5 + j) 0 = 0 then xdem (tgt D 239 : Int) ((addT 5 N (-1) p b d (cpyT 0 5 N S)) 10 (32 * 5 + j)) else 0) (N + 1) = D (tgt D 239) by rw [hD9]; rfl]
    have hzr : 0 ≤ D (tgt D 239) ∧ D (tgt D 239) ≤ 607320 := by rw [hD9]; exact demF_r hV2 (by rw [← hD9]; omega)
    refine xs_iload_4 eX7_isBounded_49 ?_
    refine xa_icmp_gt (tgt := 58) eX7_isBounded_51 (by decide) (by omega) (by omega) (fun c51 => ?_) (fun c51 => ?_)
    · refine xa_iconst eX7_isBounded_58 ?_
      exact xa_zret eX7_isBounded_59 rfl (by decide) ⟨_, rfl, by have h9 := hA; unfold o_isBounded at h9; rw [if_pos c3, b2i, if_neg (fun z => by have z2 := (bddF_iff 240).mp z (tgt D 239) (by omega) (by omega); rw [← hDk] at z2; omega)] at h9; exact h9 _ rfl (((addT_fr (by omega)).tr (cpyT_fr (by omega))).scr (by decide))⟩
    · refine xa_iconst eX7_isBounded_54 ?_
      refine xa_goto (tgt := 59) eX7_isBounded_55 (by decide) ?_
      exact xa_zret eX7_isBounded_59 rfl (by decide) ⟨_, rfl, by have h9 := hA; unfold o_isBounded at h9; rw [if_pos c3, b2i, if_pos ((bddF_iff 240).mpr (fun k h1 h2 => by have z := hmn k h1 (by omega); rw [← hDk]; omega))] at h9; exact h9 _ rfl (((addT_fr (by omega)).tr (cpyT_fr (by omega))).scr (by decide))⟩
  · exact xbv_S3 (mi' := mX7_checkPromise) (y := yX7_checkPromise) eX7_isBounded_3 (xw_4 lRX7_98 wy_X7_checkPromise) rfl rfl ⟨wd_X7_checkPromise, by decide, by decide⟩ (Nat.le_of_ble_eq_true rfl) rfl ⟨by decide, by decide⟩ (kt_X7_checkPromise yp yb yd c3 (xt_out rfl (hB1 S (by unfold o_isBounded; rw [if_neg c3]) scr.rf)))
set_option maxHeartbeats 400000 in
theorem G_isBounded {w : xW} {S : xS} {B : String → xS → Prop} {A : Int → xS → Prop} {p b d : Int} {n N : Nat} {T : Int} {C : xS} {M : Nat → Int} (hV : VS 0 n N T C) (hT : T ≤ 800000) (hR : Rel 0 n N C M) (yp : xr p) (yb : xr b) (yd : xr d)  (hq : ∀ r S' M', ((o_isBounded p b d n N C).1 = 0 → r = (o_isBounded p b d n N C).2.1) → rfr S' S → S' 30 0 4 = ((o_isBounded p b d n N C).1 : Int) → Rel 0 (o_isBounded p b d n N C).2.2.1 (o_isBounded p b d n N C).2.2.2.1 (o_isBounded p b d n N C).2.2.2.2 M' → A r (stM M' S')) : Ki w mX8_isBounded yX8_isBounded 0 0 [xp 30 0, xi p, xi b, xi d] (stM M S) A B := by
  refine K.of rfl rfl rfl rfl (Nat.le_of_ble_eq_true rfl) rfl ?_
  obtain ⟨hVT, hN20, h8, hg, hp, ho, hs⟩ := id hV
  have hn := hg.1
  have hN := hVT.1
  have ht := hVT.2.2.1
  have hM1 : M 1 = (n : Int) := by rw [hR.1 1 (by decide)]; exact hn
  have hM2 : M 2 = (N : Int) := by rw [hR.1 2 (by decide)]; exact hN
  refine xs_aload_0 eX8_isBounded_0 ?_
  refine xs_iload_1 eX8_isBounded_1 ?_
  refine xs_iload_2 eX8_isBounded_2 ?_
  refine xs_iload_3 eX8_isBounded_3 ?_
  refine xbi_S30 (mi' := mX8_isWish) (y := yX8_isWish) eX8_isBounded_4 (xw_4 lRX8_167 wy_X8_isWish) rfl rfl ⟨wd_X8_isWish, by decide, by decide⟩ (Nat.le_of_ble_eq_true rfl) rfl (k_X8_isWish yp yb yd ?_)
  refine xa_ifb_eq (tgt := 14) eX8_isBounded_7 (by decide) (fun c7 => ?_) (fun c7 => ?_)
  · refine xa_iconst eX8_isBounded_14 ?_
    refine p_X8_4 eX8_isBounded_15 lRX8_52 (by decide) ?_
    rw [up_stO (by decide)]
    refine xs_aload_0 eX8_isBounded_18 ?_
    refine gr_X8_4 eX8_isBounded_19 lRX8_52 (fun r19 => ?_)
    try simp (decide := true) only [stM_31, stM_k, up_same, hM1, hM2, show (0 : Int).toNat = 0 from rfl, show (1 : Int).toNat = 1 from rfl, show (2 : Int).toNat = 2 from rfl, show (3 : Int).toNat = 3 from rfl, show (4 : Int).toNat = 4 from rfl, show (5 : Int).toNat = 5 from rfl, show (6 : Int).toNat = 6 from rfl, show (7 : Int).toNat = 7 from rfl, show (8 : Int).toNat = 8 from rfl, show (9 : Int).toNat = 9 from rfl, show (10 : Int).toNat = 10 from rfl, show (11 : Int).toNat = 11 from rfl, show (12 : Int).toNat = 12 from rfl, show (13 : Int).toNat = 13 from rfl, show (14 : Int).toNat = 14 from rfl, Int.toNat_natCast] at r19 ⊢
    refine xa_if_ne (tgt := 29) eX8_isBounded_22 (by decide) (by decide) (fun c22 => ?_) (fun c22 => ?_)
    · refine xa_iconst eX8_isBounded_29 ?_
      refine xs_istore_4 eX8_isBounded_30 rfl ?_
      refine xa_iconst eX8_isBounded_32 ?_
      refine xs_istore_5 eX8_isBounded_33 rfl ?_
      refine xs_iload_5 eX8_isBounded_35 ?_
      refine xa_sipush eX8_isBounded_37 (by decide) ?_
      refine xa_icmp_gt (tgt := 81) eX8_isBounded_40 (by decide) (by decide) (by decide) (fun c40 => ?_) (fun c40 => ?_)
      · exact absurd c40 (by decide)
      · refine xs_iload_4 eX8_isBounded_43 ?_
        refine xa_if_eq (tgt := 81) eX8_isBounded_45 (by decide) (by decide) (fun c45 => ?_) (fun c45 => ?_)
        · refine xs_iload_4 eX8_isBounded_81 ?_
          exact xa_zret eX8_isBounded_83 rfl (by omega) ⟨_, rfl, by have h9 := hq; unfold o_isBounded at h9; rw [if_neg c7] at h9; exact h9 _ _ _ (fun z => absurd z (Nat.succ_ne_zero _)) rfr.t (by rw [up_same]; rfl) hR⟩
        · exact absurd rfl c45
    · exact absurd c22 (by decide)
  · refine xa_iconst eX8_isBounded_10 ?_
    refine xa_goto (tgt := 15) eX8_isBounded_11 (by decide) ?_
    refine p_X8_4 eX8_isBounded_15 lRX8_52 (by decide) ?_
    rw [up_stO (by decide)]
    refine xs_aload_0 eX8_isBounded_18 ?_
    refine gr_X8_4 eX8_isBounded_19 lRX8_52 (fun r19 => ?_)
    try simp (decide := true) only [stM_31, stM_k, up_same, hM1, hM2, show (0 : Int).toNat = 0 from rfl, show (1 : Int).toNat = 1 from rfl, show (2 : Int).toNat = 2 from rfl, show (3 : Int).toNat = 3 from rfl, show (4 : Int).toNat = 4 from rfl, show (5 : Int).toNat = 5 from rfl, show (6 : Int).toNat = 6 from rfl, show (7 : Int).toNat = 7 from rfl, show (8 : Int).toNat = 8 from rfl, show (9 : Int).toNat = 9 from rfl, show (10 : Int).toNat = 10 from rfl, show (11 : Int).toNat = 11 from rfl, show (12 : Int).toNat = 12 from rfl, show (13 : Int).toNat = 13 from rfl, show (14 : Int).toNat = 14 from rfl, Int.toNat_natCast] at r19 ⊢
    refine xa_if_ne (tgt := 29) eX8_isBounded_22 (by decide) (by decide) (fun c22 => ?_) (fun c22 => ?_)
    · exact absurd rfl c22
    · have lp : ∀ i : Nat, i ≤ 240 → X w mX8_isBounded (xTG w (fun v S' => ∃ a, v = some (xi a) ∧ A a S') B) 0 0 35 [xp 30 0, xi p, xi b, xi d, xi (b2i (bddF N p b d C i = true)), xi ((i : Int) + 1)] [] (stM M (up S 30 0 4 0)) := by
        refine nloop 240 (fun i hi ih => ?_)
        refine xs_iload_5 eX8_isBounded_35 ?_
        refine xa_sipush eX8_isBounded_37 (by decide) ?_
        refine xa_icmp_gt (tgt := 81) eX8_isBounded_40 (by decide) (by omega) (by decide) (fun c40 => ?_) (fun c40 => ?_)
        · refine xs_iload_4 eX8_isBounded_81 ?_
          exact xa_zret eX8_isBounded_83 rfl (b2i_01 _) ⟨_, rfl, by have h9 := hq; unfold o_isBounded at h9; rw [if_pos c7, ← show i = 240 by omega] at h9; exact h9 _ _ M (fun _ => rfl) rfr.t (by rw [up_same]; rfl) hR⟩
        · refine xs_iload_4 eX8_isBounded_43 ?_
          refine xa_ifb_eq (tgt := 81) eX8_isBounded_45 (by decide) (fun c45 => ?_) (fun c45 => ?_)
          · refine xs_iload_4 eX8_isBounded_81 ?_
            exact xa_zret eX8_isBounded_83 rfl (b2i_01 _) ⟨_, rfl, by have h9 := hq; unfold o_isBounded at h9; rw [if_pos c7, show b2i (bddF N p b d C 240 = true) = b2i (bddF N p b d C i = true) by rw [b2i, b2i, if_neg c45, if_neg (fun z => c45 ((bddF_iff i).mpr (fun k h1 h2 => (bddF_iff 240).mp z k h1 (by omega))))]] at h9; exact h9 _ _ M (fun _ => rfl) rfr.t (by rw [up_same]; rfl) hR⟩
          · have hz1 := demF_r hVT (a := (i : Int) + 1) (by omega)
            have hz2 := dmd_r (p := p) (b := b) (d := d) (t := (i : Int) + 1) (by have z := c7.1; omega) c7.2.1 (by have z := c7; omega) (by omega)
            refine xs_aload_0 eX8_isBounded_48 ?_
            refine xs_iload_5 eX8_isBounded_49 ?_
            refine xbi_V10 (mi' := mX8_demandIn) (y := yX8_demandIn) eX8_isBounded_51 (xw_5 lRX8_202 wy_X8_demandIn) rfl ⟨wd_X8_demandIn, by decide, by decide⟩ (by decide) (fun _ => rfl) rfl (Nat.le_of_ble_eq_true rfl) rfl (r_X8_demandIn hV hR (by omega) ?_)
            refine xs_iload_1 eX8_isBounded_54 ?_
            refine xs_iload_2 eX8_isBounded_55 ?_
            refine xs_iload_3 eX8_isBounded_56 ?_
            refine xs_iload_5 eX8_isBounded_57 ?_
            refine xbi_S40 (mi' := mX8_demandOf) (y := yX8_demandOf) eX8_isBounded_59 (xw_4 lRX8_197 wy_X8_demandOf) rfl rfl ⟨wd_X8_demandOf, by decide, by decide⟩ (Nat.le_of_ble_eq_true rfl) rfl (k_X8_demandOf (by have z := c7.1; omega) (by have z := c7; omega) (by omega) ?_)
            refine xa_iadd eX8_isBounded_62 ?_
            refine xs_iload_5 eX8_isBounded_63 ?_
            refine xa_icmp_gt (tgt := 72) eX8_isBounded_65 (by decide) (by omega) (by omega) (fun c65 => ?_) (fun c65 => ?_)
            · refine xa_iconst eX8_isBounded_72 ?_
              refine xs_istore_4 eX8_isBounded_73 rfl ?_
              refine xs_iinc_5 eX8_isBounded_75 rfl ?_
              refine xa_goto (tgt := 35) eX8_isBounded_78 (by decide) ?_
              have e : bddF N p b d C (i + 1) = (bddF N p b d C i && decide (demF 0 N ((i : Int) + 1) C + dmd p b d ((i : Int) + 1) ≤ (i : Int) + 1)) := rfl
              have h9 := ih (i + 1) (by omega) (by omega)
              rw [show b2i (bddF N p b d C (i + 1) = true) = 0 by rw [b2i, if_neg (by rw [e, c45]; simpa using c65)]] at h9
              rw [show (i : Int) + 1 + 1 = ((i + 1 : Nat) : Int) + 1 by omega]
              exact h9
            · refine xa_iconst eX8_isBounded_68 ?_
              refine xa_goto (tgt := 73) eX8_isBounded_69 (by decide) ?_
              refine xs_istore_4 eX8_isBounded_73 rfl ?_
              refine xs_iinc_5 eX8_isBounded_75 rfl ?_
              refine xa_goto (tgt := 35) eX8_isBounded_78 (by decide) ?_
              have e : bddF N p b d C (i + 1) = (bddF N p b d C i && decide (demF 0 N ((i : Int) + 1) C + dmd p b d ((i : Int) + 1) ≤ (i : Int) + 1)) := rfl
              have h9 := ih (i + 1) (by omega) (by omega)
              rw [show b2i (bddF N p b d C (i + 1) = true) = 1 by rw [b2i, if_pos (by rw [e, c45]; simpa using c65)]] at h9
              rw [show (i : Int) + 1 + 1 = ((i + 1 : Nat) : Int) + 1 by omega]
              exact h9
      have h15 := lp 0 (by omega)
      refine xa_iconst eX8_isBounded_25 ?_
      refine xa_goto (tgt := 30) eX8_isBounded_26 (by decide) ?_
      refine xs_istore_4 eX8_isBounded_30 rfl ?_
      refine xa_iconst eX8_isBounded_32 ?_
      refine xs_istore_5 eX8_isBounded_33 rfl ?_
      exact h15
