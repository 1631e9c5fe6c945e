/-! promises 2 to 7 -/
/-! promises 2 to 7, on both sides -/
def o_addProcess (a b c : Int) (n N : Nat) (C : xS) : xO := if 0 ≤ a ∧ a ≤ 1000000 then (if 0 ≤ b ∧ b ≤ 9999 then (if 0 ≤ c ∧ c ≤ 99 then (if n < 8 then (0, n, n + 1, N, entS 0 n a b c C) else (2, 0, n, N, C)) else (1, 0, n, N, C)) else (1, 0, n, N, C)) else (1, 0, n, N, C)
def o_setBid (p b : Int) (n N : Nat) (C : xS) : xO := if 0 ≤ p ∧ p < (n : Int) then (if 0 ≤ b ∧ b ≤ 99 then (0, C 4 (8 * 0 + p.toNat) 2, n, N, up C 4 (8 * 0 + p.toNat) 2 b) else (2, 0, n, N, C)) else (1, 0, n, N, C)
def o_setArrival (p e a : Int) (n N : Nat) (C : xS) : xO := if 0 ≤ p ∧ p < (n : Int) then (if 0 ≤ e ∧ e ≤ 60 then (if 0 ≤ a ∧ a ≤ 60 then (0, 0, n, N, up (up C 4 (8 * 0 + p.toNat) 3 e) 4 (8 * 0 + p.toNat) 4 a) else (2, 0, n, N, C)) else (2, 0, n, N, C)) else (1, 0, n, N, C)
def o_addWork (p t : Int) (n N : Nat) (C : xS) : xO := if 0 ≤ p ∧ p < (n : Int) then (if 1 ≤ t ∧ t ≤ 1000 then (0, xmin 9999 (C 4 (8 * 0 + p.toNat) 1 + t), n, N, up C 4 (8 * 0 + p.toNat) 1 (xmin 9999 (C 4 (8 * 0 + p.toNat) 1 + t))) else (2, 0, n, N, C)) else (1, 0, n, N, C)
def o_pay (p t : Int) (n N : Nat) (C : xS) : xO := if 0 ≤ p ∧ p < (n : Int) then (if 1 ≤ t ∧ t ≤ 10000 then (0, xmin 1000000 (C 4 (8 * 0 + p.toNat) 0 + t), n, N, up C 4 (8 * 0 + p.toNat) 0 (xmin 1000000 (C 4 (8 * 0 + p.toNat) 0 + t))) else (2, 0, n, N, C)) else (1, 0, n, N, C)
def ownS (p : Int) (N : Nat) (C : xS) : Int := sm (fun j => if C 10 (32 * 0 + j) 0 = 0 ∧ C 10 (32 * 0 + j) 1 = p then 1 else 0) N
def o_process (p a : Int) (n N : Nat) (C : xS) : xO := if 0 ≤ p ∧ p < (n : Int) then (if 0 ≤ a ∧ a ≤ 11 then (0, (if a = 11 then ownS p N C else C 4 (8 * 0 + p.toNat) a.toNat), n, N, C) else (2, 0, n, N, C)) else (1, 0, n, N, C)
theorem VS.pup {n N p f : Nat} {T v : Int} {S : xS} (h : VS 0 n N T S) (hp : p < n) (hv : PQ T (fun g => if g = f then v else S 4 (8 * 0 + p) g)) : VS 0 n N T (up S 4 (8 * 0 + p) f v) := by
  refine h.chg (Int.le_refl _) (up_oth (by omega)) (up_oth (by omega)) (up_oth (by omega)) (by rw [up_oth (by omega)]; exact h.g) (fun q hq => ?_) (fun j g _ _ _ _ => up_k (by decide)) (fun j hj => ?_)
  · by_cases e : q = p
    · subst e; rw [up_row]; exact hv
    · rw [up_oth (by omega)]; exact h.p hq
  · have h9 := h.o hj
    unfold OQ at h9
    rw [up_k (by decide), up_k (by decide), up_k (by decide)]
    omega
section RR2
variable {w : xW} {S C : xS} {B : String → xS → Prop} {n N : Nat} {M : Nat → Int} {T : Int}
theorem r_X8_isRefused {A : Int → xS → Prop} {a : Int} {P : Prop} [Decidable P] (hV : VS 0 n N T C) (hR : Rel 0 n N C M) (ha : xr a) (h1 : ¬ (0 ≤ a ∧ a < (n : Int)) → A 1 (stM M (up S 30 0 4 1))) (h2 : 0 ≤ a ∧ a < (n : Int) → ¬ P → A 1 (stM M (up S 30 0 4 2))) (h3 : 0 ≤ a ∧ a < (n : Int) → P → A 0 (stM M (up S 30 0 4 0))) : Ki w mX8_isRefused yX8_isRefused 0 0 [xp 30 0, xi a, xi (b2i P)] (stM M S) A B := by
  have e1 : M 1 = (n : Int) := by rw [hR.1 1 (by decide)]; exact hV.g.1
  have h8 := hV.2.2.1
  refine k_X8_isRefused ha (by rw [stM_31, e1]; omega) (fun z => ?_) (fun z z2 => ?_) (fun z z2 => ?_)
  · rw [up_stO (by decide)]; rw [stM_31, e1] at z; exact h1 (by omega)
  · rw [up_stO (by decide)]; rw [stM_31, e1] at z; exact h2 (by omega) z2
  · rw [up_stO (by decide)]; rw [stM_31, e1] at z; exact h3 (by omega) z2
theorem r_X8_isProcess {A : Int → xS → Prop} {a : Int} (hV : VS 0 n N T C) (hR : Rel 0 n N C M) (ha : xr a) (hq : A (b2i (0 ≤ a ∧ a < (n : Int))) (stM M S)) : Ki w mX8_isProcess yX8_isProcess 0 0 [xp 30 0, xi a] (stM M S) A B := by
  have e1 : M 1 = (n : Int) := by rw [hR.1 1 (by decide)]; exact hV.g.1
  have h8 := hV.2.2.1
  refine k_X8_isProcess ha (by rw [stM_31, e1]; omega) ?_
  rw [stM_31, e1, b2i_congr (Q := 0 ≤ a ∧ a < (n : Int)) (by constructor <;> intro z <;> omega)]
  exact hq
theorem r_X8_isPromise {A : Int → xS → Prop} {a : Int} (hV : VS 0 n N T C) (hR : Rel 0 n N C M) (ha : xr a) (hq : A (b2i (0 ≤ a ∧ a < (N : Int))) (stM M S)) : Ki w mX8_isPromise yX8_isPromise 0 0 [xp 30 0, xi a] (stM M S) A B := by
  have e1 : M 2 = (N : Int) := by rw [hR.1 2 (by decide)]; exact hV.1.1
  have h8 := hV.2.1
  refine k_X8_isPromise ha (by rw [stM_31, e1]; omega) ?_
  rw [stM_31, e1, b2i_congr (Q := 0 ≤ a ∧ a < (N : Int)) (by constructor <;> intro z <;> omega)]
  exact hq
theorem r_X8_hasEnded {A : Int → xS → Prop} {a : Int} {j : Nat} (hV : VS 0 n N T C) (hR : Rel 0 n N C M) (ea : a = (j : Int)) (hj : j < N) (hq : A (b2i (C 10 (32 * 0 + j) 0 = 1)) (stM M S)) : Ki w mX8_hasEnded yX8_hasEnded 0 0 [xp 30 0, xi a] (stM M S) A B := by
  have h8 := hV.2.1
  have h9 := hV.t hj
  unfold TQ at h9
  have e := hR.q hj (show 0 ≤ 16 by decide) (by decide) (by decide) (by decide)
  refine k_X8_hasEnded ea (by omega) (by rw [stM_31, e]; omega) ?_
  rw [stM_31, e]
  exact hq
theorem r_X8_hasJob {A : Int → xS → Prop} {a : Int} {j : Nat} (hV : VS 0 n N T C) (hR : Rel 0 n N C M) (ea : a = (j : Int)) (hj : j < N) (hq : A (b2i (C 2 0 2 < C 10 (32 * 0 + j) 7)) (stM M S)) : Ki w mX8_hasJob yX8_hasJob 0 0 [xp 30 0, xi a] (stM M S) A B := by
  have h8 := hV.2.1
  have h9 := hR.2.2.1 j hj
  have e0 : M 0 = C 2 0 2 := hR.1 0 (by decide)
  unfold PR at h9
  dsimp only at h9
  refine k_X8_hasJob ea (by omega) (by rw [stM_31]; omega) (by rw [stM_31]; omega) ?_
  rw [stM_31, e0, b2i_congr (Q := C 2 0 2 < C 10 (32 * 0 + j) 7) (by constructor <;> intro z <;> omega)]
  exact hq
theorem Rel.ent {s : Nat} {m b d : Int} (h : Rel s n N C M) (hn : n < 8) (hN : N ≤ 20) : Rel s (n + 1) N (entS s n m b d C) (upM (upM (upM (upM M (15 + 11 * n + 0) m) (15 + 11 * n + 1) b) (15 + 11 * n + 2) d) 1 ((n : Int) + 1)) := by
  obtain ⟨h1, h2, h3, h4⟩ := h
  refine ⟨fun i hi => ?_, fun p f hp hf => ?_, fun j hj => ?_, fun q hq => ?_⟩
  · by_cases c : i = 1
    · subst c
      rw [upM_same]
      show _ = entS s n m b d C 1 s 3
      unfold entS
      rw [up_same]
    · rw [upM_o c, upM_o (by omega), upM_o (by omega), upM_o (by omega), h1 i hi]
      have b' : i = 0 ∨ i = 2 ∨ i = 3 ∨ i = 4 ∨ i = 5 ∨ i = 6 ∨ i = 7 ∨ i = 8 ∨ i = 9 ∨ i = 10 ∨ i = 11 ∨ i = 12 ∨ i = 13 ∨ i = 14 := by omega
      have e2 : ∀ f, entS s n m b d C 2 s f = C 2 s f := fun f => by unfold entS; rw [up_k (by decide), rwS_oth (by omega)]
      have e5 : ∀ f, entS s n m b d C 5 s f = C 5 s f := fun f => by unfold entS; rw [up_k (by decide), rwS_oth (by omega)]
      have e1 : ∀ f, f ≠ 3 → entS s n m b d C 1 s f = C 1 s f := fun f hf => by unfold entS; rw [up_f hf, rwS_oth (by omega)]
      rcases b' with rfl | rfl | rfl | rfl | rfl | rfl | rfl | rfl | rfl | rfl | rfl | rfl | rfl | rfl
      · exact (e2 2).symm
      · exact (e2 1).symm
      · exact (e1 4 (by decide)).symm
      · exact (e1 5 (by decide)).symm
      · exact (e1 7 (by decide)).symm
      · exact (e1 8 (by decide)).symm
      · exact (e1 9 (by decide)).symm
      · exact (e1 10 (by decide)).symm
      · exact (e1 11 (by decide)).symm
      · exact (e1 12 (by decide)).symm
      · exact (e1 13 (by decide)).symm
      · exact (e5 1).symm
      · exact (e5 2).symm
      · exact (e1 6 (by decide)).symm
  · rw [upM_o (show 15 + 11 * p + f ≠ 1 by omega)]
    unfold entS
    rw [up_oth (show ¬ (4 = 1 ∧ 8 * s + p = s) by omega)]
    by_cases c : p = n
    · subst c
      rw [if_pos (by omega), rwS_at]
      have h9 := h2 p f hp hf
      rw [if_neg (by omega)] at h9
      simp only [upM, Nat.add_left_cancel_iff]
      by_cases f2 : f = 2
      · subst f2; rfl
      · rw [if_neg f2]
        by_cases f1 : f = 1
        · subst f1; rfl
        · rw [if_neg f1]
          by_cases f0 : f = 0
          · subst f0; rfl
          · rw [if_neg f0, if_neg f0, if_neg f1, if_neg f2]; exact h9
    · rw [upM_o (by omega), upM_o (by omega), upM_o (by omega), rwS_oth (by omega), h2 p f hp hf]
      by_cases c2 : p < n
      · rw [if_pos c2, if_pos (by omega)]
      · rw [if_neg c2, if_neg (by omega)]
  · unfold entS
    rw [up_oth (show ¬ (2 = 1 ∧ s = s) by omega), up_oth (show ¬ (10 = 1 ∧ 32 * s + j = s) by omega), rwS_oth (show ¬ (2 = 4 ∧ s = 8 * s + n) by omega), rwS_oth (show ¬ (10 = 4 ∧ 32 * s + j = 8 * s + n) by omega)]
    exact (h3 j hj).g (fun f hf => by rw [upM_o (by omega), upM_o (by omega), upM_o (by omega), upM_o (by omega)])
  · unfold entS
    rw [upM_o (by omega), upM_o (by omega), upM_o (by omega), upM_o (by omega), up_oth (by omega), rwS_oth (by omega)]
    exact h4 q hq
theorem r_X8_appendProcess {A : Int → xS → Prop} {s : Nat} {m b d : Int} (hV : VS s n N T C) (hR : Rel s n N C M) (hn : n < 8) (hm : xr m) (hb : xr b) (hd : xr d) (hq : ∀ M', Rel s (n + 1) N (entS s n m b d C) M' → A (n : Int) (stM M' S)) : Ki w mX8_appendProcess yX8_appendProcess 0 0 [xp 30 0, xi m, xi b, xi d] (stM M S) A B := by
  have e1 : M 1 = (n : Int) := by rw [hR.1 1 (by decide)]; exact hV.g.1
  refine k_X8_appendProcess (p := n) (by rw [stM_31, e1]) hn hm hb hd ?_
  rw [up_stM, up_stM, up_stM, up_stM]
  exact hq _ (hR.ent hn hV.2.1)
end RR2
set_option maxHeartbeats 400000 in
theorem r_X8_owned {w : xW} {S : xS} {B : String → xS → Prop} {A : Int → xS → Prop} {n N : Nat} {T a : Int} {C : xS} {M : Nat → Int} (hV : VS 0 n N T C) (hR : Rel 0 n N C M) (ha : xr a) (hq : A (ownS a N C) (stM M S)) : Ki w mX8_owned yX8_owned 0 0 [xp 30 0, xi a] (stM M S) A B := by
  refine K.of rfl rfl rfl rfl (Nat.le_of_ble_eq_true rfl) rfl ?_
  have h2 : M 2 = (N : Int) := by rw [hR.1 2 (by decide)]; exact hV.1.1
  have hN20 := hV.2.1
  have h8 := hV.2.2.1
  have lp : ∀ i : Nat, i ≤ N →  X w mX8_owned (xTG w (fun v S' => ∃ a, v = some (xi a) ∧ A a S') B) 0 0 4 [xp 30 0, xi a, xi (ownS a i C), xi (i : Int)] [] (stM M S) := by
    refine nloop (N) (fun i hi ih  => ?_)
    have hT9 : i < N → TQ (C 2 0 2) T (C 10 (32 * 0 + i)) := fun z => hV.t z
    have hO9 : i < N → OQ n (C 2 0 2) T (C 10 (32 * 0 + i)) := fun z => hV.o z
    unfold TQ at hT9
    unfold OQ at hO9
    refine xs_iload_3 eX8_owned_4 ?_
    refine xa_i2l eX8_owned_5 (by omega) ?_
    refine xs_aload_0 eX8_owned_6 ?_
    refine g_X8_0 eX8_owned_7 lRX8_7 ?_
    refine xa_iconst eX8_owned_10 ?_
    refine gar_31 eX8_owned_11 (by omega) (fun r11 => ?_)
    try simp (decide := true) only [stM_31, h2, show (0 : Int).toNat = 0 from rfl, show (1 : Int).toNat = 1 from rfl, show (2 : Int).toNat = 2 from rfl, show (3 : Int).toNat = 3 from rfl, show (4 : Int).toNat = 4 from rfl, show (5 : Int).toNat = 5 from rfl, show (6 : Int).toNat = 6 from rfl, show (7 : Int).toNat = 7 from rfl, show (8 : Int).toNat = 8 from rfl, show (9 : Int).toNat = 9 from rfl, show (10 : Int).toNat = 10 from rfl, show (11 : Int).toNat = 11 from rfl, show (12 : Int).toNat = 12 from rfl, show (13 : Int).toNat = 13 from rfl, show (14 : Int).toNat = 14 from rfl, Int.toNat_natCast] at r11 ⊢
    refine xa_lcmp eX8_owned_12 (by omega) (by omega) ?_
    refine xa_ifc_ge (tgt := 48) eX8_owned_13 (by decide) (fun c13 => ?_) (fun c13 => ?_)
    · refine xs_iload_2 eX8_owned_48 ?_
      exact xa_iret eX8_owned_49 rfl ⟨_, rfl, by rw [show i = N by omega]; exact hq⟩
    · refine xs_iload_2 eX8_owned_16 ?_
      refine xs_aload_0 eX8_owned_17 ?_
      refine xs_iload_3 eX8_owned_18 ?_
      refine xbi_V10 (mi' := mX8_hasEnded) (y := yX8_hasEnded) eX8_owned_19 (xw_5 lRX8_119 wy_X8_hasEnded) rfl ⟨wd_X8_hasEnded, by decide, by decide⟩ (by decide) (fun _ => rfl) rfl (Nat.le_of_ble_eq_true rfl) rfl (r_X8_hasEnded (j := i) hV hR rfl (by omega) ?_)
      refine xa_ifb_ne (tgt := 39) eX8_owned_22 (by decide) (fun c22 => ?_) (fun c22 => ?_)
      · refine xa_iconst eX8_owned_39 ?_
        refine xa_iadd eX8_owned_40 ?_
        refine xs_istore_2 eX8_owned_41 rfl ?_
        refine xs_iinc_3 eX8_owned_42 rfl ?_
        refine xa_goto (tgt := 4) eX8_owned_45 (by decide) ?_
        have h9 := ih (i + 1) (by omega) (by omega)
        rw [show ownS a (i + 1) C = ownS a i C + (if C 10 (32 * 0 + i) 0 = 0 ∧ C 10 (32 * 0 + i) 1 = a then 1 else 0) from rfl, if_neg (by omega)] at h9
        exact h9
      · refine xs_aload_0 eX8_owned_25 ?_
        refine xs_iload_3 eX8_owned_26 ?_
        refine xa_iconst eX8_owned_27 ?_
        refine xbi_V20 (mi' := mX8_told0) (y := yX8_told0) eX8_owned_28 (xw_5 lRX8_122 wy_X8_told0) rfl ⟨wd_X8_told0, by decide, by decide⟩ (by decide) (fun _ => rfl) rfl (Nat.le_of_ble_eq_true rfl) rfl (r_X8_told0 (j := i) (g := 1) hR rfl rfl (by omega) (by omega) (by decide) (by decide) (by decide) (by decide) ?_)
        refine xs_iload_1 eX8_owned_31 ?_
        refine xa_icmp_ne (tgt := 39) eX8_owned_32 (by decide) (by omega) (by omega) (fun c32 => ?_) (fun c32 => ?_)
        · refine xa_iconst eX8_owned_39 ?_
          refine xa_iadd eX8_owned_40 ?_
          refine xs_istore_2 eX8_owned_41 rfl ?_
          refine xs_iinc_3 eX8_owned_42 rfl ?_
          refine xa_goto (tgt := 4) eX8_owned_45 (by decide) ?_
          have h9 := ih (i + 1) (by omega) (by omega)
          rw [show ownS a (i + 1) C = ownS a i C + (if C 10 (32 * 0 + i) 0 = 0 ∧ C 10 (32 * 0 + i) 1 = a then 1 else 0) from rfl, if_neg (by omega)] at h9
          exact h9
        · refine xa_iconst eX8_owned_35 ?_
          refine xa_goto (tgt := 40) eX8_owned_36 (by decide) ?_
          refine xa_iadd eX8_owned_40 ?_
          refine xs_istore_2 eX8_owned_41 rfl ?_
          refine xs_iinc_3 eX8_owned_42 rfl ?_
          refine xa_goto (tgt := 4) eX8_owned_45 (by decide) ?_
          have h9 := ih (i + 1) (by omega) (by omega)
          rw [show ownS a (i + 1) C = ownS a i C + (if C 10 (32 * 0 + i) 0 = 0 ∧ C 10 (32 * 0 + i) 1 = a then 1 else 0) from rfl, if_pos (by omega)] at h9
          exact h9
  refine xa_iconst eX8_owned_0 ?_
  refine xs_istore_2 eX8_owned_1 rfl ?_
  refine xa_iconst eX8_owned_2 ?_
  refine xs_istore_3 eX8_owned_3 rfl ?_
  exact lp 0 (by omega)
set_option maxHeartbeats 400000 in
theorem F_addProcess {w : xW} {S : xS} {B : String → xS → Prop} {A : Int → xS → Prop} {a b c : Int} {n N : Nat} {T : Int} (hV : VS 0 n N T S) (hT : T ≤ 800000) (ya : xr a) (yb : xr b) (yc : xr c)  (hA : ∀ S', (o_addProcess a b c n N S).1 = 0 → scr S' (o_addProcess a b c n N S).2.2.2.2 → A (o_addProcess a b c n N S).2.1 S') (hB1 : ∀ S', (o_addProcess a b c n N S).1 = 1 → scr S' S → B "java/lang/IllegalArgumentException" S') (hB2 : ∀ S', (o_addProcess a b c n N S).1 = 2 → scr S' S → B "java/lang/IllegalStateException" S') : Ki w mX7_addProcess yX7_addProcess 1 6 [xp 0 0, xi a, xi b, xi c] S A B := by
  refine K.of rfl rfl rfl rfl (Nat.le_of_ble_eq_true rfl) rfl ?_
  obtain ⟨hVT, hN20, h8, hg, hp, ho, hs⟩ := id hV
  have hn := hg.1
  have hN := hVT.1
  have ht := hVT.2.2.1
  refine xs_iload_1 eX7_addProcess_0 ?_
  refine xa_iconst eX7_addProcess_1 ?_
  refine xa_ldc (a := 1000000) eX7_addProcess_2 lRX7_44 (by decide) ?_
  by_cases c4 : 0 ≤ a ∧ a ≤ 1000000
  · refine xbv_S30 (mi' := mX7_checkRange) (y := yX7_checkRange) eX7_addProcess_4 (xw_4 lRX7_45 wy_X7_checkRange) rfl rfl ⟨wd_X7_checkRange, by decide, by decide⟩ (Nat.le_of_ble_eq_true rfl) rfl (kk_X7_checkRange ya (by decide) (by decide) c4 ?_)
    refine xs_iload_2 eX7_addProcess_7 ?_
    refine xa_iconst eX7_addProcess_8 ?_
    refine xa_sipush eX7_addProcess_9 (by decide) ?_
    by_cases c12 : 0 ≤ b ∧ b ≤ 9999
    · refine xbv_S30 (mi' := mX7_checkRange) (y := yX7_checkRange) eX7_addProcess_12 (xw_4 lRX7_45 wy_X7_checkRange) rfl rfl ⟨wd_X7_checkRange, by decide, by decide⟩ (Nat.le_of_ble_eq_true rfl) rfl (kk_X7_checkRange yb (by decide) (by decide) c12 ?_)
      refine xs_iload_3 eX7_addProcess_15 ?_
      refine xa_iconst eX7_addProcess_16 ?_
      refine xa_bipush eX7_addProcess_17 (by decide) ?_
      by_cases c19 : 0 ≤ c ∧ c ≤ 99
      · refine xbv_S30 (mi' := mX7_checkRange) (y := yX7_checkRange) eX7_addProcess_19 (xw_4 lRX7_45 wy_X7_checkRange) rfl rfl ⟨wd_X7_checkRange, by decide, by decide⟩ (Nat.le_of_ble_eq_true rfl) rfl (kk_X7_checkRange yc (by decide) (by decide) c19 ?_)
        refine xs_aload_0 eX7_addProcess_22 ?_
        refine g_X7_0 eX7_addProcess_23 lRX7_10 ?_
        refine gr_X4_3 eX7_addProcess_26 lRX7_49 (fun r26 => ?_)
        try rw [hn] at r26 ⊢
        refine xa_bipush eX7_addProcess_29 (by decide) ?_
        refine xa_icmp_ge (tgt := 38) eX7_addProcess_31 (by decide) (by omega) (by omega) (fun c31 => ?_) (fun c31 => ?_)
        · refine xa_iconst eX7_addProcess_38 ?_
          exact xbv_S1 (mi' := mX7_checkState) (y := yX7_checkState) eX7_addProcess_39 (xw_4 lRX7_53 wy_X7_checkState) rfl rfl ⟨wd_X7_checkState, by decide, by decide⟩ (Nat.le_of_ble_eq_true rfl) rfl ⟨by decide, by decide⟩ (kt_X7_checkState (P := False) id (xt_out rfl (hB2 S (by unfold o_addProcess; rw [if_pos c4, if_pos c12, if_pos c19, if_neg (by omega)]) scr.rf)))
        · refine xa_iconst eX7_addProcess_34 ?_
          refine xa_goto (tgt := 39) eX7_addProcess_35 (by decide) ?_
          refine xbv_S10 (mi' := mX7_checkState) (y := yX7_checkState) eX7_addProcess_39 (xw_4 lRX7_53 wy_X7_checkState) rfl rfl ⟨wd_X7_checkState, by decide, by decide⟩ (Nat.le_of_ble_eq_true rfl) rfl (kk_X7_checkState (P := True) trivial ?_)
          refine xs_aload_0 eX7_addProcess_42 ?_
          refine g_X7_0 eX7_addProcess_43 lRX7_10 ?_
          refine xs_iload_1 eX7_addProcess_46 ?_
          refine xs_iload_2 eX7_addProcess_47 ?_
          refine xs_iload_3 eX7_addProcess_48 ?_
          refine xbv_V30 (mi' := mX4_enter) (y := yX4_enter) eX7_addProcess_49 (xw_5 lRX7_57 wy_X4_enter) rfl ⟨wd_X4_enter, by decide, by decide⟩ (by decide) (fun _ => rfl) rfl (Nat.le_of_ble_eq_true rfl) rfl (f_X4_enter hn (by omega) c4 c12 c19 ?_)
          refine xs_aload_0 eX7_addProcess_52 ?_
          refine g_X7_0 eX7_addProcess_53 lRX7_10 ?_
          refine gr_X4_3 eX7_addProcess_56 lRX7_49 (fun r56 => ?_)
          try simp (decide := true) only [entS, up_app, if_true, and_true, true_and] at r56 ⊢
          refine xa_iconst eX7_addProcess_59 ?_
          refine xa_isub eX7_addProcess_60 ?_
          exact xa_iret eX7_addProcess_61 rfl ⟨_, rfl, by have h9 := hA; unfold o_addProcess at h9; rw [if_pos c4, if_pos c12, if_pos c19, if_pos (by omega)] at h9; have h7 := h9 _ rfl scr.rf; unfold entS at h7; rw [show (n : Int) + 1 - 1 = (n : Int) by omega]; exact h7⟩
      · exact xbv_S3 (mi' := mX7_checkRange) (y := yX7_checkRange) eX7_addProcess_19 (xw_4 lRX7_45 wy_X7_checkRange) rfl rfl ⟨wd_X7_checkRange, by decide, by decide⟩ (Nat.le_of_ble_eq_true rfl) rfl ⟨by decide, by decide⟩ (kt_X7_checkRange yc (by decide) (by decide) c19 (xt_out rfl (hB1 S (by unfold o_addProcess; rw [if_pos c4, if_pos c12, if_neg c19]) scr.rf)))
    · exact xbv_S3 (mi' := mX7_checkRange) (y := yX7_checkRange) eX7_addProcess_12 (xw_4 lRX7_45 wy_X7_checkRange) rfl rfl ⟨wd_X7_checkRange, by decide, by decide⟩ (Nat.le_of_ble_eq_true rfl) rfl ⟨by decide, by decide⟩ (kt_X7_checkRange yb (by decide) (by decide) c12 (xt_out rfl (hB1 S (by unfold o_addProcess; rw [if_pos c4, if_neg c12]) scr.rf)))
  · exact xbv_S3 (mi' := mX7_checkRange) (y := yX7_checkRange) eX7_addProcess_4 (xw_4 lRX7_45 wy_X7_checkRange) rfl rfl ⟨wd_X7_checkRange, by decide, by decide⟩ (Nat.le_of_ble_eq_true rfl) rfl ⟨by decide, by decide⟩ (kt_X7_checkRange ya (by decide) (by decide) c4 (xt_out rfl (hB1 S (by unfold o_addProcess; rw [if_neg c4]) scr.rf)))
set_option maxHeartbeats 400000 in
theorem G_addProcess {w : xW} {S : xS} {B : String → xS → Prop} {A : Int → xS → Prop} {a b c : Int} {n N : Nat} {T : Int} {C : xS} {M : Nat → Int} (hV : VS 0 n N T C) (hT : T ≤ 800000) (hR : Rel 0 n N C M) (ya : xr a) (yb : xr b) (yc : xr c)  (hq : ∀ r S' M', ((o_addProcess a b c n N C).1 = 0 → r = (o_addProcess a b c n N C).2.1) → rfr S' S → S' 30 0 4 = ((o_addProcess a b c n N C).1 : Int) → Rel 0 (o_addProcess a b c n N C).2.2.1 (o_addProcess a b c n N C).2.2.2.1 (o_addProcess a b c n N C).2.2.2.2 M' → A r (stM M' S')) : Ki w mX8_addProcess yX8_addProcess 0 0 [xp 30 0, xi a, xi b, xi c] (stM M S) A B := by
  refine K.of rfl rfl rfl rfl (Nat.le_of_ble_eq_true rfl) rfl ?_
  obtain ⟨hVT, hN20, h8, hg, hp, ho, hs⟩ := id hV
  have hn := hg.1
  have hN := hVT.1
  have ht := hVT.2.2.1
  have h1 : M 1 = (n : Int) := by rw [hR.1 1 (by decide)]; exact hV.g.1
  refine xs_aload_0 eX8_addProcess_0 ?_
  refine xa_iconst eX8_addProcess_1 ?_
  refine p_X8_4 eX8_addProcess_2 lRX8_52 (by decide) ?_
  rw [up_stO (by decide)]
  refine xs_iload_1 eX8_addProcess_5 ?_
  refine xa_i2l eX8_addProcess_6 (by omega) ?_
  refine xa_lconst0 eX8_addProcess_7 ?_
  refine xa_ldc2 (a := 1000000) eX8_addProcess_8 lRX8_83 (by decide) ?_
  refine xbi_S30 (mi' := mX8_isBetween) (y := yX8_isBetween) eX8_addProcess_11 (xw_4 lRX8_61 wy_X8_isBetween) rfl rfl ⟨wd_X8_isBetween, by decide, by decide⟩ (Nat.le_of_ble_eq_true rfl) rfl (k_X8_isBetween (by omega) (by decide) (by decide) ?_)
  refine xa_ifb_eq (tgt := 41) eX8_addProcess_14 (by decide) (fun c14 => ?_) (fun c14 => ?_)
  · refine xs_aload_0 eX8_addProcess_41 ?_
    refine xa_iconst eX8_addProcess_42 ?_
    refine xbi_V10 (mi' := mX8_fail) (y := yX8_fail) eX8_addProcess_43 (xw_5 lRX8_89 wy_X8_fail) rfl ⟨wd_X8_fail, by decide, by decide⟩ (by decide) (fun _ => rfl) rfl (Nat.le_of_ble_eq_true rfl) rfl (k_X8_fail (by decide) ?_)
    rw [up_stO (by decide)]
    exact xa_iret eX8_addProcess_46 rfl ⟨_, rfl, by have h9 := hq; unfold o_addProcess at h9; rw [if_neg c14] at h9; exact h9 _ _ _ (fun z => absurd z (Nat.succ_ne_zero _)) (rfr.t.tr rfr.t) (by rw [up_same]; rfl) hR⟩
  · refine xs_iload_2 eX8_addProcess_17 ?_
    refine xa_i2l eX8_addProcess_18 (by omega) ?_
    refine xa_lconst0 eX8_addProcess_19 ?_
    refine xa_ldc2 (a := 9999) eX8_addProcess_20 lRX8_85 (by decide) ?_
    refine xbi_S30 (mi' := mX8_isBetween) (y := yX8_isBetween) eX8_addProcess_23 (xw_4 lRX8_61 wy_X8_isBetween) rfl rfl ⟨wd_X8_isBetween, by decide, by decide⟩ (Nat.le_of_ble_eq_true rfl) rfl (k_X8_isBetween (by omega) (by decide) (by decide) ?_)
    refine xa_ifb_eq (tgt := 41) eX8_addProcess_26 (by decide) (fun c26 => ?_) (fun c26 => ?_)
    · refine xs_aload_0 eX8_addProcess_41 ?_
      refine xa_iconst eX8_addProcess_42 ?_
      refine xbi_V10 (mi' := mX8_fail) (y := yX8_fail) eX8_addProcess_43 (xw_5 lRX8_89 wy_X8_fail) rfl ⟨wd_X8_fail, by decide, by decide⟩ (by decide) (fun _ => rfl) rfl (Nat.le_of_ble_eq_true rfl) rfl (k_X8_fail (by decide) ?_)
      rw [up_stO (by decide)]
      exact xa_iret eX8_addProcess_46 rfl ⟨_, rfl, by have h9 := hq; unfold o_addProcess at h9; rw [if_pos c14, if_neg c26] at h9; exact h9 _ _ _ (fun z => absurd z (Nat.succ_ne_zero _)) (rfr.t.tr rfr.t) (by rw [up_same]; rfl) hR⟩
    · refine xs_iload_3 eX8_addProcess_29 ?_
      refine xa_i2l eX8_addProcess_30 (by omega) ?_
      refine xa_lconst0 eX8_addProcess_31 ?_
      refine xa_ldc2 (a := 99) eX8_addProcess_32 lRX8_87 (by decide) ?_
      refine xbi_S30 (mi' := mX8_isBetween) (y := yX8_isBetween) eX8_addProcess_35 (xw_4 lRX8_61 wy_X8_isBetween) rfl rfl ⟨wd_X8_isBetween, by decide, by decide⟩ (Nat.le_of_ble_eq_true rfl) rfl (k_X8_isBetween (by omega) (by decide) (by decide) ?_)
      refine xa_ifb_ne (tgt := 47) eX8_addProcess_38 (by decide) (fun c38 => ?_) (fun c38 => ?_)
      · refine xs_aload_0 eX8_addProcess_47 ?_
        refine g_X8_0 eX8_addProcess_48 lRX8_7 ?_
        refine xa_iconst eX8_addProcess_51 ?_
        refine gar_31 eX8_addProcess_52 (by decide) (fun r52 => ?_)
        try simp (decide := true) only [stM_31, h1, show (0 : Int).toNat = 0 from rfl, show (1 : Int).toNat = 1 from rfl, show (2 : Int).toNat = 2 from rfl, show (3 : Int).toNat = 3 from rfl, show (4 : Int).toNat = 4 from rfl, show (5 : Int).toNat = 5 from rfl, show (6 : Int).toNat = 6 from rfl, show (7 : Int).toNat = 7 from rfl, show (8 : Int).toNat = 8 from rfl, show (9 : Int).toNat = 9 from rfl, show (10 : Int).toNat = 10 from rfl, show (11 : Int).toNat = 11 from rfl, show (12 : Int).toNat = 12 from rfl, show (13 : Int).toNat = 13 from rfl, show (14 : Int).toNat = 14 from rfl] at r52 ⊢
        refine xa_ldc2 (a := 8) eX8_addProcess_53 lRX8_92 (by decide) ?_
        refine xa_lcmp eX8_addProcess_56 (by omega) (by decide) ?_
        refine xa_ifc_ne (tgt := 68) eX8_addProcess_57 (by decide) (fun c57 => ?_) (fun c57 => ?_)
        · refine xs_aload_0 eX8_addProcess_68 ?_
          refine xs_iload_1 eX8_addProcess_69 ?_
          refine xs_iload_2 eX8_addProcess_70 ?_
          refine xs_iload_3 eX8_addProcess_71 ?_
          refine xbi_V30 (mi' := mX8_appendProcess) (y := yX8_appendProcess) eX8_addProcess_72 (xw_5 lRX8_94 wy_X8_appendProcess) rfl ⟨wd_X8_appendProcess, by decide, by decide⟩ (by decide) (fun _ => rfl) rfl (Nat.le_of_ble_eq_true rfl) rfl (r_X8_appendProcess hV hR (by omega) ya yb yc (fun M2 hR2 => ?_))
          exact xa_iret eX8_addProcess_75 rfl ⟨_, rfl, by have h9 := hq; unfold o_addProcess at h9; rw [if_pos c14, if_pos c26, if_pos c38, if_pos (by omega)] at h9; exact h9 _ _ _ (fun _ => rfl) rfr.t (by rw [up_same]; rfl) hR2⟩
        · refine xs_aload_0 eX8_addProcess_60 ?_
          refine xa_iconst eX8_addProcess_61 ?_
          refine xbi_V10 (mi' := mX8_fail) (y := yX8_fail) eX8_addProcess_62 (xw_5 lRX8_89 wy_X8_fail) rfl ⟨wd_X8_fail, by decide, by decide⟩ (by decide) (fun _ => rfl) rfl (Nat.le_of_ble_eq_true rfl) rfl (k_X8_fail (by decide) ?_)
          rw [up_stO (by decide)]
          refine xa_goto (tgt := 75) eX8_addProcess_65 (by decide) ?_
          exact xa_iret eX8_addProcess_75 rfl ⟨_, rfl, by have h9 := hq; unfold o_addProcess at h9; rw [if_pos c14, if_pos c26, if_pos c38, if_neg (by omega)] at h9; exact h9 _ _ _ (fun z => absurd z (Nat.succ_ne_zero _)) (rfr.t.tr rfr.t) (by rw [up_same]; rfl) hR⟩
      · refine xs_aload_0 eX8_addProcess_41 ?_
        refine xa_iconst eX8_addProcess_42 ?_
        refine xbi_V10 (mi' := mX8_fail) (y := yX8_fail) eX8_addProcess_43 (xw_5 lRX8_89 wy_X8_fail) rfl ⟨wd_X8_fail, by decide, by decide⟩ (by decide) (fun _ => rfl) rfl (Nat.le_of_ble_eq_true rfl) rfl (k_X8_fail (by decide) ?_)
        rw [up_stO (by decide)]
        exact xa_iret eX8_addProcess_46 rfl ⟨_, rfl, by have h9 := hq; unfold o_addProcess at h9; rw [if_pos c14, if_pos c26, if_neg c38] at h9; exact h9 _ _ _ (fun z => absurd z (Nat.succ_ne_zero _)) (rfr.t.tr rfr.t) (by rw [up_same]; rfl) hR⟩
set_option maxHeartbeats 400000 in
theorem F_setBid {w : xW} {S : xS} {B : String → xS → Prop} {A : Int → xS → Prop} {p b : Int} {n N : Nat} {T : Int} (hV : VS 0 n N T S) (hT : T ≤ 800000) (yp : xr p) (yb : xr b)  (hA : ∀ S', (o_setBid p b n N S).1 = 0 → scr S' (o_setBid p b n N S).2.2.2.2 → A (o_setBid p b n N S).2.1 S') (hB1 : ∀ S', (o_setBid p b n N S).1 = 1 → scr S' S → B "java/lang/IndexOutOfBoundsException" S') (hB2 : ∀ S', (o_setBid p b n N S).1 = 2 → scr S' S → B "java/lang/IllegalArgumentException" S') : Ki w mX7_setBid yX7_setBid 1 6 [xp 0 0, xi p, xi b] S A B := by
  refine K.of rfl rfl rfl rfl (Nat.le_of_ble_eq_true rfl) rfl ?_
  obtain ⟨hVT, hN20, h8, hg, hp, ho, hs⟩ := id hV
  have hn := hg.1
  have hN := hVT.1
  have ht := hVT.2.2.1
  refine xs_aload_0 eX7_setBid_0 ?_
  refine g_X7_0 eX7_setBid_1 lRX7_10 ?_
  refine xs_iload_1 eX7_setBid_4 ?_
  by_cases c5 : 0 ≤ p ∧ p < (n : Int)
  · refine xbo_V10 (mi' := mX4_knownProcess) (y := yX4_knownProcess) eX7_setBid_5 (xw_5 lRX7_60 wy_X4_knownProcess) rfl ⟨wd_X4_knownProcess, by decide, by decide⟩ (by decide) (fun _ => rfl) rfl (Nat.le_of_ble_eq_true rfl) rfl (kI_X4_knownProcess hn h8 c5 ?_)
    refine xs_astore_3 eX7_setBid_8 rfl ?_
    refine xs_iload_2 eX7_setBid_9 ?_
    refine xa_iconst eX7_setBid_10 ?_
    refine xa_bipush eX7_setBid_11 (by decide) ?_
    by_cases c13 : 0 ≤ b ∧ b ≤ 99
    · refine xbv_S30 (mi' := mX7_checkRange) (y := yX7_checkRange) eX7_setBid_13 (xw_4 lRX7_45 wy_X7_checkRange) rfl rfl ⟨wd_X7_checkRange, by decide, by decide⟩ (Nat.le_of_ble_eq_true rfl) rfl (kk_X7_checkRange yb (by decide) (by decide) c13 ?_)
      refine xs_aload_3 eX7_setBid_16 ?_
      refine gr_X0_2 eX7_setBid_17 lRX7_64 (fun r17 => ?_)
      refine xs_istore_4 eX7_setBid_20 rfl ?_
      refine xs_aload_3 eX7_setBid_22 ?_
      refine xs_iload_2 eX7_setBid_23 ?_
      refine p_X0_2 eX7_setBid_24 lRX7_64 (by omega) ?_
      refine xs_iload_4 eX7_setBid_27 ?_
      exact xa_iret eX7_setBid_29 rfl ⟨_, rfl, by have h9 := hA; unfold o_setBid at h9; rw [if_pos c5, if_pos c13] at h9; exact h9 _ rfl scr.rf⟩
    · exact xbv_S3 (mi' := mX7_checkRange) (y := yX7_checkRange) eX7_setBid_13 (xw_4 lRX7_45 wy_X7_checkRange) rfl rfl ⟨wd_X7_checkRange, by decide, by decide⟩ (Nat.le_of_ble_eq_true rfl) rfl ⟨by decide, by decide⟩ (kt_X7_checkRange yb (by decide) (by decide) c13 (xt_out rfl (hB2 S (by unfold o_setBid; rw [if_pos c5, if_neg c13]) scr.rf)))
  · exact xbo_V1 (mi' := mX4_knownProcess) (y := yX4_knownProcess) eX7_setBid_5 (xw_5 lRX7_60 wy_X4_knownProcess) rfl ⟨wd_X4_knownProcess, by decide, by decide⟩ (by decide) (fun _ => rfl) rfl (Nat.le_of_ble_eq_true rfl) rfl ⟨by decide, by decide⟩ (kt_X4_knownProcess hn h8 yp c5 (xt_out rfl (hB1 S (by unfold o_setBid; rw [if_neg c5]) scr.rf)))
set_option maxHeartbeats 400000 in
theorem G_setBid {w : xW} {S : xS} {B : String → xS → Prop} {A : Int → xS → Prop} {p b : Int} {n N : Nat} {T : Int} {C : xS} {M : Nat → Int} (hV : VS 0 n N T C) (hT : T ≤ 800000) (hR : Rel 0 n N C M) (yp : xr p) (yb : xr b)  (hq : ∀ r S' M', ((o_setBid p b n N C).1 = 0 → r = (o_setBid p b n N C).2.1) → rfr S' S → S' 30 0 4 = ((o_setBid p b n N C).1 : Int) → Rel 0 (o_setBid p b n N C).2.2.1 (o_setBid p b n N C).2.2.2.1 (o_setBid p b n N C).2.2.2.2 M' → A r (stM M' S')) : Ki w mX8_setBid yX8_setBid 0 0 [xp 30 0, xi p, xi b] (stM M S) A B := by
  refine K.of rfl rfl rfl rfl (Nat.le_of_ble_eq_true rfl) rfl ?_
  obtain ⟨hVT, hN20, h8, hg, hp, ho, hs⟩ := id hV
  have hn := hg.1
  have hN := hVT.1
  have ht := hVT.2.2.1
  refine xs_aload_0 eX8_setBid_0 ?_
  refine xs_iload_1 eX8_setBid_1 ?_
  refine xs_iload_2 eX8_setBid_2 ?_
  refine xa_i2l eX8_setBid_3 (by omega) ?_
  refine xa_lconst0 eX8_setBid_4 ?_
  refine xa_ldc2 (a := 99) eX8_setBid_5 lRX8_87 (by decide) ?_
  refine xbi_S30 (mi' := mX8_isBetween) (y := yX8_isBetween) eX8_setBid_8 (xw_4 lRX8_61 wy_X8_isBetween) rfl rfl ⟨wd_X8_isBetween, by decide, by decide⟩ (Nat.le_of_ble_eq_true rfl) rfl (k_X8_isBetween (by omega) (by decide) (by decide) ?_)
  refine xbi_V20 (mi' := mX8_isRefused) (y := yX8_isRefused) eX8_setBid_11 (xw_5 lRX8_102 wy_X8_isRefused) rfl ⟨wd_X8_isRefused, by decide, by decide⟩ (by decide) (fun _ => rfl) rfl (Nat.le_of_ble_eq_true rfl) rfl (r_X8_isRefused hV hR yp (fun k1 => ?_) (fun k1 k2 => ?_) (fun k1 k2 => ?_))
  · refine xa_if_eq (tgt := 19) eX8_setBid_14 (by decide) (by omega) (fun c14 => ?_) (fun c14 => ?_)
    · exact absurd c14 (by decide)
    · refine xa_iconst eX8_setBid_17 ?_
      exact xa_iret eX8_setBid_18 rfl ⟨_, rfl, by have h9 := hq; unfold o_setBid at h9; rw [if_neg k1] at h9; exact h9 _ _ _ (fun z => absurd z (Nat.succ_ne_zero _)) rfr.t (by rw [up_same]; rfl) hR⟩
  · refine xa_if_eq (tgt := 19) eX8_setBid_14 (by decide) (by omega) (fun c14 => ?_) (fun c14 => ?_)
    · exact absurd c14 (by decide)
    · refine xa_iconst eX8_setBid_17 ?_
      exact xa_iret eX8_setBid_18 rfl ⟨_, rfl, by have h9 := hq; unfold o_setBid at h9; rw [if_pos k1, if_neg k2] at h9; exact h9 _ _ _ (fun z => absurd z (Nat.succ_ne_zero _)) rfr.t (by rw [up_same]; rfl) hR⟩
  · refine xa_if_eq (tgt := 19) eX8_setBid_14 (by decide) (by omega) (fun c14 => ?_) (fun c14 => ?_)
    · refine xs_aload_0 eX8_setBid_19 ?_
      refine xs_iload_1 eX8_setBid_20 ?_
      refine xa_iconst eX8_setBid_21 ?_
      refine xbi_V20 (mi' := mX8_of) (y := yX8_of) eX8_setBid_22 (xw_5 lRX8_70 wy_X8_of) rfl ⟨wd_X8_of, by decide, by decide⟩ (by decide) (fun _ => rfl) rfl (Nat.le_of_ble_eq_true rfl) rfl (r_X8_of (p := p.toNat) (g := 2) hR (by omega) rfl (by omega) h8 (by decide) ?_)
      refine xs_istore_3 eX8_setBid_25 rfl ?_
      refine xs_aload_0 eX8_setBid_26 ?_
      refine xs_iload_1 eX8_setBid_27 ?_
      refine xa_iconst eX8_setBid_28 ?_
      refine xs_iload_2 eX8_setBid_29 ?_
      refine xbv_V30 (mi' := mX8_put) (y := yX8_put) eX8_setBid_30 (xw_5 lRX8_79 wy_X8_put) rfl ⟨wd_X8_put, by decide, by decide⟩ (by decide) (fun _ => rfl) rfl (Nat.le_of_ble_eq_true rfl) rfl (r_X8_put (p := p.toNat) (g := 2) hR (by omega) rfl (by omega) h8 hN20 (by decide) yb (fun M2 hR2 => ?_))
      refine xs_iload_3 eX8_setBid_33 ?_
      exact xa_iret eX8_setBid_34 rfl ⟨_, rfl, by have h9 := hq; unfold o_setBid at h9; rw [if_pos k1, if_pos k2] at h9; exact h9 _ _ _ (fun _ => rfl) rfr.t (by rw [up_same]; rfl) hR2⟩
    · exact absurd rfl c14
set_option maxHeartbeats 400000 in
theorem F_addWork {w : xW} {S : xS} {B : String → xS → Prop} {A : Int → xS → Prop} {p t : Int} {n N : Nat} {T : Int} (hV : VS 0 n N T S) (hT : T ≤ 800000) (yp : xr p) (yt : xr t)  (hA : ∀ S', (o_addWork p t n N S).1 = 0 → scr S' (o_addWork p t n N S).2.2.2.2 → A (o_addWork p t n N S).2.1 S') (hB1 : ∀ S', (o_addWork p t n N S).1 = 1 → scr S' S → B "java/lang/IndexOutOfBoundsException" S') (hB2 : ∀ S', (o_addWork p t n N S).1 = 2 → scr S' S → B "java/lang/IllegalArgumentException" S') : Ki w mX7_addWork yX7_addWork 1 6 [xp 0 0, xi p, xi t] S A B := by
  refine K.of rfl rfl rfl rfl (Nat.le_of_ble_eq_true rfl) rfl ?_
  obtain ⟨hVT, hN20, h8, hg, hp, ho, hs⟩ := id hV
  have hn := hg.1
  have hN := hVT.1
  have ht := hVT.2.2.1
  refine xs_aload_0 eX7_addWork_0 ?_
  refine g_X7_0 eX7_addWork_1 lRX7_10 ?_
  refine xs_iload_1 eX7_addWork_4 ?_
  by_cases c5 : 0 ≤ p ∧ p < (n : Int)
  · refine xbo_V10 (mi' := mX4_knownProcess) (y := yX4_knownProcess) eX7_addWork_5 (xw_5 lRX7_60 wy_X4_knownProcess) rfl ⟨wd_X4_knownProcess, by decide, by decide⟩ (by decide) (fun _ => rfl) rfl (Nat.le_of_ble_eq_true rfl) rfl (kI_X4_knownProcess hn h8 c5 ?_)
    refine xs_astore_3 eX7_addWork_8 rfl ?_
    refine xs_iload_2 eX7_addWork_9 ?_
    refine xa_iconst eX7_addWork_10 ?_
    refine xa_sipush eX7_addWork_11 (by decide) ?_
    by_cases c14 : 1 ≤ t ∧ t ≤ 1000
    · refine xbv_S30 (mi' := mX7_checkRange) (y := yX7_checkRange) eX7_addWork_14 (xw_4 lRX7_45 wy_X7_checkRange) rfl rfl ⟨wd_X7_checkRange, by decide, by decide⟩ (Nat.le_of_ble_eq_true rfl) rfl (kk_X7_checkRange yt (by decide) (by decide) c14 ?_)
      refine xs_aload_3 eX7_addWork_17 ?_
      refine xs_iload_2 eX7_addWork_18 ?_
      refine xbv_V10 (mi' := mX0_takeWork) (y := yX0_takeWork) eX7_addWork_19 (xw_5 lRX7_75 wy_X0_takeWork) rfl ⟨wd_X0_takeWork, by decide, by decide⟩ (by decide) (fun _ => rfl) rfl (Nat.le_of_ble_eq_true rfl) rfl (k_X0_takeWork (by have h9 := hp p.toNat (by omega); unfold PQ at h9; omega) ?_)
      refine xs_aload_3 eX7_addWork_22 ?_
      refine gr_X0_1 eX7_addWork_23 lRX7_79 (fun r23 => ?_)
      try simp (decide := true) only [up_app, if_true, and_true, true_and] at r23 ⊢
      exact xa_iret eX7_addWork_26 rfl ⟨_, rfl, by have h9 := hA; unfold o_addWork at h9; rw [if_pos c5, if_pos c14] at h9; exact h9 _ rfl scr.rf⟩
    · exact xbv_S3 (mi' := mX7_checkRange) (y := yX7_checkRange) eX7_addWork_14 (xw_4 lRX7_45 wy_X7_checkRange) rfl rfl ⟨wd_X7_checkRange, by decide, by decide⟩ (Nat.le_of_ble_eq_true rfl) rfl ⟨by decide, by decide⟩ (kt_X7_checkRange yt (by decide) (by decide) c14 (xt_out rfl (hB2 S (by unfold o_addWork; rw [if_pos c5, if_neg c14]) scr.rf)))
  · exact xbo_V1 (mi' := mX4_knownProcess) (y := yX4_knownProcess) eX7_addWork_5 (xw_5 lRX7_60 wy_X4_knownProcess) rfl ⟨wd_X4_knownProcess, by decide, by decide⟩ (by decide) (fun _ => rfl) rfl (Nat.le_of_ble_eq_true rfl) rfl ⟨by decide, by decide⟩ (kt_X4_knownProcess hn h8 yp c5 (xt_out rfl (hB1 S (by unfold o_addWork; rw [if_neg c5]) scr.rf)))
theorem r_X8_burden {w : xW} {S C : xS} {B : String → xS → Prop} {s n N : Nat} {M : Nat → Int} {A : xS → Prop} {a v : Int} {p : Nat} (hR : Rel s n N C M) (ea : a = (p : Int)) (hp : p < n) (hn : n ≤ 8) (hN : N ≤ 20) (hr : xr (C 4 (8 * s + p) 1 + v)) (hq : ∀ M', Rel s n N (up C 4 (8 * s + p) 1 (xmin 9999 (C 4 (8 * s + p) 1 + v))) M' → A (stM M' S)) : Kv w mX8_burden yX8_burden 0 0 [xp 30 0, xi a, xi v] (stM M S) A B :=
  k_X8_burden ea (by omega) (by rw [stM_31, hR.p hp hn (by decide)]; exact hr) (by rw [up_stM, stM_31, hR.p hp hn (by decide)]; exact hq _ (hR.pu hp hn (by decide) hN))
set_option maxHeartbeats 400000 in
theorem G_addWork {w : xW} {S : xS} {B : String → xS → Prop} {A : Int → xS → Prop} {p t : Int} {n N : Nat} {T : Int} {C : xS} {M : Nat → Int} (hV : VS 0 n N T C) (hT : T ≤ 800000) (hR : Rel 0 n N C M) (yp : xr p) (yt : xr t)  (hq : ∀ r S' M', ((o_addWork p t n N C).1 = 0 → r = (o_addWork p t n N C).2.1) → rfr S' S → S' 30 0 4 = ((o_addWork p t n N C).1 : Int) → Rel 0 (o_addWork p t n N C).2.2.1 (o_addWork p t n N C).2.2.2.1 (o_addWork p t n N C).2.2.2.2 M' → A r (stM M' S')) : Ki w mX8_addWork yX8_addWork 0 0 [xp 30 0, xi p, xi t] (stM M S) A B := by
  refine K.of rfl rfl rfl rfl (Nat.le_of_ble_eq_true rfl) rfl ?_
  obtain ⟨hVT, hN20, h8, hg, hp, ho, hs⟩ := id hV
  have hn := hg.1
  have hN := hVT.1
  have ht := hVT.2.2.1
  refine xs_aload_0 eX8_addWork_0 ?_
  refine xs_iload_1 eX8_addWork_1 ?_
  refine xs_iload_2 eX8_addWork_2 ?_
  refine xa_i2l eX8_addWork_3 (by omega) ?_
  refine xa_lconst1 eX8_addWork_4 ?_
  refine xa_ldc2 (a := 1000) eX8_addWork_5 lRX8_108 (by decide) ?_
  refine xbi_S30 (mi' := mX8_isBetween) (y := yX8_isBetween) eX8_addWork_8 (xw_4 lRX8_61 wy_X8_isBetween) rfl rfl ⟨wd_X8_isBetween, by decide, by decide⟩ (Nat.le_of_ble_eq_true rfl) rfl (k_X8_isBetween (by omega) (by decide) (by decide) ?_)
  refine xbi_V20 (mi' := mX8_isRefused) (y := yX8_isRefused) eX8_addWork_11 (xw_5 lRX8_102 wy_X8_isRefused) rfl ⟨wd_X8_isRefused, by decide, by decide⟩ (by decide) (fun _ => rfl) rfl (Nat.le_of_ble_eq_true rfl) rfl (r_X8_isRefused hV hR yp (fun k1 => ?_) (fun k1 k2 => ?_) (fun k1 k2 => ?_))
  · refine xa_if_eq (tgt := 19) eX8_addWork_14 (by decide) (by omega) (fun c14 => ?_) (fun c14 => ?_)
    · exact absurd c14 (by decide)
    · refine xa_iconst eX8_addWork_17 ?_
      exact xa_iret eX8_addWork_18 rfl ⟨_, rfl, by have h9 := hq; unfold o_addWork at h9; rw [if_neg k1] at h9; exact h9 _ _ _ (fun z => absurd z (Nat.succ_ne_zero _)) rfr.t (by rw [up_same]; rfl) hR⟩
  · refine xa_if_eq (tgt := 19) eX8_addWork_14 (by decide) (by omega) (fun c14 => ?_) (fun c14 => ?_)
    · exact absurd c14 (by decide)
    · refine xa_iconst eX8_addWork_17 ?_
      exact xa_iret eX8_addWork_18 rfl ⟨_, rfl, by have h9 := hq; unfold o_addWork at h9; rw [if_pos k1, if_neg k2] at h9; exact h9 _ _ _ (fun z => absurd z (Nat.succ_ne_zero _)) rfr.t (by rw [up_same]; rfl) hR⟩
  · refine xa_if_eq (tgt := 19) eX8_addWork_14 (by decide) (by omega) (fun c14 => ?_) (fun c14 => ?_)
    · refine xs_aload_0 eX8_addWork_19 ?_
      refine xs_iload_1 eX8_addWork_20 ?_
      refine xs_iload_2 eX8_addWork_21 ?_
      refine xbv_V20 (mi' := mX8_burden) (y := yX8_burden) eX8_addWork_22 (xw_5 lRX8_110 wy_X8_burden) rfl ⟨wd_X8_burden, by decide, by decide⟩ (by decide) (fun _ => rfl) rfl (Nat.le_of_ble_eq_true rfl) rfl (r_X8_burden (p := p.toNat) hR (by omega) (by omega) h8 hN20 (by have h9 := hp p.toNat (by omega); unfold PQ at h9; omega) (fun M2 hR2 => ?_))
      refine xs_aload_0 eX8_addWork_25 ?_
      refine xs_iload_1 eX8_addWork_26 ?_
      refine xa_iconst eX8_addWork_27 ?_
      refine xbi_V20 (mi' := mX8_of) (y := yX8_of) eX8_addWork_28 (xw_5 lRX8_70 wy_X8_of) rfl ⟨wd_X8_of, by decide, by decide⟩ (by decide) (fun _ => rfl) rfl (Nat.le_of_ble_eq_true rfl) rfl (r_X8_of (p := p.toNat) (g := 1) hR2 (by omega) rfl (by omega) h8 (by decide) ?_)
      rw [up_same]
      exact xa_iret eX8_addWork_31 rfl ⟨_, rfl, by have h9 := hq; unfold o_addWork at h9; rw [if_pos k1, if_pos k2] at h9; exact h9 _ _ _ (fun _ => rfl) rfr.t (by rw [up_same]; rfl) hR2⟩
    · exact absurd rfl c14
set_option maxHeartbeats 400000 in
theorem F_pay {w : xW} {S : xS} {B : String → xS → Prop} {A : Int → xS → Prop} {p t : Int} {n N : Nat} {T : Int} (hV : VS 0 n N T S) (hT : T ≤ 800000) (yp : xr p) (yt : xr t)  (hA : ∀ S', (o_pay p t n N S).1 = 0 → scr S' (o_pay p t n N S).2.2.2.2 → A (o_pay p t n N S).2.1 S') (hB1 : ∀ S', (o_pay p t n N S).1 = 1 → scr S' S → B "java/lang/IndexOutOfBoundsException" S') (hB2 : ∀ S', (o_pay p t n N S).1 = 2 → scr S' S → B "java/lang/IllegalArgumentException" S') : Ki w mX7_pay yX7_pay 1 6 [xp 0 0, xi p, xi t] S A B := by
  refine K.of rfl rfl rfl rfl (Nat.le_of_ble_eq_true rfl) rfl ?_
  obtain ⟨hVT, hN20, h8, hg, hp, ho, hs⟩ := id hV
  have hn := hg.1
  have hN := hVT.1
  have ht := hVT.2.2.1
  refine xs_aload_0 eX7_pay_0 ?_
  refine g_X7_0 eX7_pay_1 lRX7_10 ?_
  refine xs_iload_1 eX7_pay_4 ?_
  by_cases c5 : 0 ≤ p ∧ p < (n : Int)
  · refine xbo_V10 (mi' := mX4_knownProcess) (y := yX4_knownProcess) eX7_pay_5 (xw_5 lRX7_60 wy_X4_knownProcess) rfl ⟨wd_X4_knownProcess, by decide, by decide⟩ (by decide) (fun _ => rfl) rfl (Nat.le_of_ble_eq_true rfl) rfl (kI_X4_knownProcess hn h8 c5 ?_)
    refine xs_astore_3 eX7_pay_8 rfl ?_
    refine xs_iload_2 eX7_pay_9 ?_
    refine xa_iconst eX7_pay_10 ?_
    refine xa_sipush eX7_pay_11 (by decide) ?_
    by_cases c14 : 1 ≤ t ∧ t ≤ 10000
    · refine xbv_S30 (mi' := mX7_checkRange) (y := yX7_checkRange) eX7_pay_14 (xw_4 lRX7_45 wy_X7_checkRange) rfl rfl ⟨wd_X7_checkRange, by decide, by decide⟩ (Nat.le_of_ble_eq_true rfl) rfl (kk_X7_checkRange yt (by decide) (by decide) c14 ?_)
      refine xs_aload_3 eX7_pay_17 ?_
      refine xs_iload_2 eX7_pay_18 ?_
      refine xbv_V10 (mi' := mX0_earn) (y := yX0_earn) eX7_pay_19 (xw_5 lRX7_82 wy_X0_earn) rfl ⟨wd_X0_earn, by decide, by decide⟩ (by decide) (fun _ => rfl) rfl (Nat.le_of_ble_eq_true rfl) rfl (k_X0_earn (by have h9 := hp p.toNat (by omega); unfold PQ at h9; omega) ?_)
      refine xs_aload_3 eX7_pay_22 ?_
      refine gr_X0_0 eX7_pay_23 lRX7_85 (fun r23 => ?_)
      try simp (decide := true) only [up_app, if_true, and_true, true_and] at r23 ⊢
      exact xa_iret eX7_pay_26 rfl ⟨_, rfl, by have h9 := hA; unfold o_pay at h9; rw [if_pos c5, if_pos c14] at h9; exact h9 _ rfl scr.rf⟩
    · exact xbv_S3 (mi' := mX7_checkRange) (y := yX7_checkRange) eX7_pay_14 (xw_4 lRX7_45 wy_X7_checkRange) rfl rfl ⟨wd_X7_checkRange, by decide, by decide⟩ (Nat.le_of_ble_eq_true rfl) rfl ⟨by decide, by decide⟩ (kt_X7_checkRange yt (by decide) (by decide) c14 (xt_out rfl (hB2 S (by unfold o_pay; rw [if_pos c5, if_neg c14]) scr.rf)))
  · exact xbo_V1 (mi' := mX4_knownProcess) (y := yX4_knownProcess) eX7_pay_5 (xw_5 lRX7_60 wy_X4_knownProcess) rfl ⟨wd_X4_knownProcess, by decide, by decide⟩ (by decide) (fun _ => rfl) rfl (Nat.le_of_ble_eq_true rfl) rfl ⟨by decide, by decide⟩ (kt_X4_knownProcess hn h8 yp c5 (xt_out rfl (hB1 S (by unfold o_pay; rw [if_neg c5]) scr.rf)))
set_option maxHeartbeats 400000 in
theorem G_pay {w : xW} {S : xS} {B : String → xS → Prop} {A : Int → xS → Prop} {p t : Int} {n N : Nat} {T : Int} {C : xS} {M : Nat → Int} (hV : VS 0 n N T C) (hT : T ≤ 800000) (hR : Rel 0 n N C M) (yp : xr p) (yt : xr t)  (hq : ∀ r S' M', ((o_pay p t n N C).1 = 0 → r = (o_pay p t n N C).2.1) → rfr S' S → S' 30 0 4 = ((o_pay p t n N C).1 : Int) → Rel 0 (o_pay p t n N C).2.2.1 (o_pay p t n N C).2.2.2.1 (o_pay p t n N C).2.2.2.2 M' → A r (stM M' S')) : Ki w mX8_pay yX8_pay 0 0 [xp 30 0, xi p, xi t] (stM M S) A B := by
  refine K.of rfl rfl rfl rfl (Nat.le_of_ble_eq_true rfl) rfl ?_
  obtain ⟨hVT, hN20, h8, hg, hp, ho, hs⟩ := id hV
  have hn := hg.1
  have hN := hVT.1
  have ht := hVT.2.2.1
  refine xs_aload_0 eX8_pay_0 ?_
  refine xs_iload_1 eX8_pay_1 ?_
  refine xs_iload_2 eX8_pay_2 ?_
  refine xa_i2l eX8_pay_3 (by omega) ?_
  refine xa_lconst1 eX8_pay_4 ?_
  refine xa_ldc2 (a := 10000) eX8_pay_5 lRX8_114 (by decide) ?_
  refine xbi_S30 (mi' := mX8_isBetween) (y := yX8_isBetween) eX8_pay_8 (xw_4 lRX8_61 wy_X8_isBetween) rfl rfl ⟨wd_X8_isBetween, by decide, by decide⟩ (Nat.le_of_ble_eq_true rfl) rfl (k_X8_isBetween (by omega) (by decide) (by decide) ?_)
  refine xbi_V20 (mi' := mX8_isRefused) (y := yX8_isRefused) eX8_pay_11 (xw_5 lRX8_102 wy_X8_isRefused) rfl ⟨wd_X8_isRefused, by decide, by decide⟩ (by decide) (fun _ => rfl) rfl (Nat.le_of_ble_eq_true rfl) rfl (r_X8_isRefused hV hR yp (fun k1 => ?_) (fun k1 k2 => ?_) (fun k1 k2 => ?_))
  · refine xa_if_eq (tgt := 19) eX8_pay_14 (by decide) (by omega) (fun c14 => ?_) (fun c14 => ?_)
    · exact absurd c14 (by decide)
    · refine xa_iconst eX8_pay_17 ?_
      exact xa_iret eX8_pay_18 rfl ⟨_, rfl, by have h9 := hq; unfold o_pay at h9; rw [if_neg k1] at h9; exact h9 _ _ _ (fun z => absurd z (Nat.succ_ne_zero _)) rfr.t (by rw [up_same]; rfl) hR⟩
  · refine xa_if_eq (tgt := 19) eX8_pay_14 (by decide) (by omega) (fun c14 => ?_) (fun c14 => ?_)
    · exact absurd c14 (by decide)
    · refine xa_iconst eX8_pay_17 ?_
      exact xa_iret eX8_pay_18 rfl ⟨_, rfl, by have h9 := hq; unfold o_pay at h9; rw [if_pos k1, if_neg k2] at h9; exact h9 _ _ _ (fun z => absurd z (Nat.succ_ne_zero _)) rfr.t (by rw [up_same]; rfl) hR⟩
  · refine xa_if_eq (tgt := 19) eX8_pay_14 (by decide) (by omega) (fun c14 => ?_) (fun c14 => ?_)
    · refine xs_aload_0 eX8_pay_19 ?_
      refine xs_iload_1 eX8_pay_20 ?_
      refine xs_iload_2 eX8_pay_21 ?_
      refine xbv_V20 (mi' := mX8_earn) (y := yX8_earn) eX8_pay_22 (xw_5 lRX8_116 wy_X8_earn) rfl ⟨wd_X8_earn, by decide, by decide⟩ (by decide) (fun _ => rfl) rfl (Nat.le_of_ble_eq_true rfl) rfl (r_X8_earn (p := p.toNat) hR (by omega) (by omega) h8 hN20 (by have h9 := hp p.toNat (by omega); unfold PQ at h9; omega) (fun M2 hR2 => ?_))
      refine xs_aload_0 eX8_pay_25 ?_
      refine xs_iload_1 eX8_pay_26 ?_
      refine xa_iconst eX8_pay_27 ?_
      refine xbi_V20 (mi' := mX8_of) (y := yX8_of) eX8_pay_28 (xw_5 lRX8_70 wy_X8_of) rfl ⟨wd_X8_of, by decide, by decide⟩ (by decide) (fun _ => rfl) rfl (Nat.le_of_ble_eq_true rfl) rfl (r_X8_of (p := p.toNat) (g := 0) hR2 (by omega) rfl (by omega) h8 (by decide) ?_)
      rw [up_same]
      exact xa_iret eX8_pay_31 rfl ⟨_, rfl, by have h9 := hq; unfold o_pay at h9; rw [if_pos k1, if_pos k2] at h9; exact h9 _ _ _ (fun _ => rfl) rfr.t (by rw [up_same]; rfl) hR2⟩
    · exact absurd rfl c14
set_option maxHeartbeats 400000 in
theorem F_setArrival {w : xW} {S : xS} {B : String → xS → Prop} {A : xS → Prop} {p e a : Int} {n N : Nat} {T : Int} (hV : VS 0 n N T S) (hT : T ≤ 800000) (yp : xr p) (ye : xr e) (ya : xr a)  (hA : ∀ S', (o_setArrival p e a n N S).1 = 0 → scr S' (o_setArrival p e a n N S).2.2.2.2 → A S') (hB1 : ∀ S', (o_setArrival p e a n N S).1 = 1 → scr S' S → B "java/lang/IndexOutOfBoundsException" S') (hB2 : ∀ S', (o_setArrival p e a n N S).1 = 2 → scr S' S → B "java/lang/IllegalArgumentException" S') : Kv w mX7_setArrival yX7_setArrival 1 6 [xp 0 0, xi p, xi e, xi a] S A B := by
  refine K.of rfl rfl rfl rfl (Nat.le_of_ble_eq_true rfl) rfl ?_
  obtain ⟨hVT, hN20, h8, hg, hp, ho, hs⟩ := id hV
  have hn := hg.1
  have hN := hVT.1
  have ht := hVT.2.2.1
  refine xs_aload_0 eX7_setArrival_0 ?_
  refine g_X7_0 eX7_setArrival_1 lRX7_10 ?_
  refine xs_iload_1 eX7_setArrival_4 ?_
  by_cases c5 : 0 ≤ p ∧ p < (n : Int)
  · refine xbo_V10 (mi' := mX4_knownProcess) (y := yX4_knownProcess) eX7_setArrival_5 (xw_5 lRX7_60 wy_X4_knownProcess) rfl ⟨wd_X4_knownProcess, by decide, by decide⟩ (by decide) (fun _ => rfl) rfl (Nat.le_of_ble_eq_true rfl) rfl (kI_X4_knownProcess hn h8 c5 ?_)
    refine xs_astore_4 eX7_setArrival_8 rfl ?_
    refine xs_iload_2 eX7_setArrival_10 ?_
    refine xa_iconst eX7_setArrival_11 ?_
    refine xa_bipush eX7_setArrival_12 (by decide) ?_
    by_cases c14 : 0 ≤ e ∧ e ≤ 60
    · refine xbv_S30 (mi' := mX7_checkRange) (y := yX7_checkRange) eX7_setArrival_14 (xw_4 lRX7_45 wy_X7_checkRange) rfl rfl ⟨wd_X7_checkRange, by decide, by decide⟩ (Nat.le_of_ble_eq_true rfl) rfl (kk_X7_checkRange ye (by decide) (by decide) c14 ?_)
      refine xs_iload_3 eX7_setArrival_17 ?_
      refine xa_iconst eX7_setArrival_18 ?_
      refine xa_bipush eX7_setArrival_19 (by decide) ?_
      by_cases c21 : 0 ≤ a ∧ a ≤ 60
      · refine xbv_S30 (mi' := mX7_checkRange) (y := yX7_checkRange) eX7_setArrival_21 (xw_4 lRX7_45 wy_X7_checkRange) rfl rfl ⟨wd_X7_checkRange, by decide, by decide⟩ (Nat.le_of_ble_eq_true rfl) rfl (kk_X7_checkRange ya (by decide) (by decide) c21 ?_)
        refine xs_aload_4 eX7_setArrival_24 ?_
        refine xs_iload_2 eX7_setArrival_26 ?_
        refine p_X0_3 eX7_setArrival_27 lRX7_69 (by omega) ?_
        refine xs_aload_4 eX7_setArrival_30 ?_
        refine xs_iload_3 eX7_setArrival_32 ?_
        refine p_X0_4 eX7_setArrival_33 lRX7_72 (by omega) ?_
        exact xa_vret eX7_setArrival_36 rfl ⟨rfl, by have h9 := hA; unfold o_setArrival at h9; rw [if_pos c5, if_pos c14, if_pos c21] at h9; exact h9 _ rfl scr.rf⟩
      · exact xbv_S3 (mi' := mX7_checkRange) (y := yX7_checkRange) eX7_setArrival_21 (xw_4 lRX7_45 wy_X7_checkRange) rfl rfl ⟨wd_X7_checkRange, by decide, by decide⟩ (Nat.le_of_ble_eq_true rfl) rfl ⟨by decide, by decide⟩ (kt_X7_checkRange ya (by decide) (by decide) c21 (xt_out rfl (hB2 S (by unfold o_setArrival; rw [if_pos c5, if_pos c14, if_neg c21]) scr.rf)))
    · exact xbv_S3 (mi' := mX7_checkRange) (y := yX7_checkRange) eX7_setArrival_14 (xw_4 lRX7_45 wy_X7_checkRange) rfl rfl ⟨wd_X7_checkRange, by decide, by decide⟩ (Nat.le_of_ble_eq_true rfl) rfl ⟨by decide, by decide⟩ (kt_X7_checkRange ye (by decide) (by decide) c14 (xt_out rfl (hB2 S (by unfold o_setArrival; rw [if_pos c5, if_neg c14]) scr.rf)))
  · exact xbo_V1 (mi' := mX4_knownProcess) (y := yX4_knownProcess) eX7_setArrival_5 (xw_5 lRX7_60 wy_X4_knownProcess) rfl ⟨wd_X4_knownProcess, by decide, by decide⟩ (by decide) (fun _ => rfl) rfl (Nat.le_of_ble_eq_true rfl) rfl ⟨by decide, by decide⟩ (kt_X4_knownProcess hn h8 yp c5 (xt_out rfl (hB1 S (by unfold o_setArrival; rw [if_neg c5]) scr.rf)))
set_option maxHeartbeats 400000 in
theorem G_setArrival {w : xW} {S : xS} {B : String → xS → Prop} {A : xS → Prop} {p e a : Int} {n N : Nat} {T : Int} {C : xS} {M : Nat → Int} (hV : VS 0 n N T C) (hT : T ≤ 800000) (hR : Rel 0 n N C M) (yp : xr p) (ye : xr e) (ya : xr a)  (hq : ∀ S' M', rfr S' S → S' 30 0 4 = ((o_setArrival p e a n N C).1 : Int) → Rel 0 (o_setArrival p e a n N C).2.2.1 (o_setArrival p e a n N C).2.2.2.1 (o_setArrival p e a n N C).2.2.2.2 M' → A (stM M' S')) : Kv w mX8_setArrival yX8_setArrival 0 0 [xp 30 0, xi p, xi e, xi a] (stM M S) A B := by
  refine K.of rfl rfl rfl rfl (Nat.le_of_ble_eq_true rfl) rfl ?_
  obtain ⟨hVT, hN20, h8, hg, hp, ho, hs⟩ := id hV
  have hn := hg.1
  have hN := hVT.1
  have ht := hVT.2.2.1
  refine xs_aload_0 eX8_setArrival_0 ?_
  refine xs_iload_1 eX8_setArrival_1 ?_
  refine xs_iload_2 eX8_setArrival_2 ?_
  refine xa_i2l eX8_setArrival_3 (by omega) ?_
  refine xa_lconst0 eX8_setArrival_4 ?_
  refine xa_ldc2 (a := 60) eX8_setArrival_5 lRX8_106 (by decide) ?_
  refine xbi_S30 (mi' := mX8_isBetween) (y := yX8_isBetween) eX8_setArrival_8 (xw_4 lRX8_61 wy_X8_isBetween) rfl rfl ⟨wd_X8_isBetween, by decide, by decide⟩ (Nat.le_of_ble_eq_true rfl) rfl (k_X8_isBetween (by omega) (by decide) (by decide) ?_)
  refine xa_ifb_eq (tgt := 30) eX8_setArrival_11 (by decide) (fun c11 => ?_) (fun c11 => ?_)
  · refine xa_iconst eX8_setArrival_30 ?_
    refine xbi_V20 (mi' := mX8_isRefused) (y := yX8_isRefused) eX8_setArrival_31 (xw_5 lRX8_102 wy_X8_isRefused) rfl ⟨wd_X8_isRefused, by decide, by decide⟩ (by decide) (fun _ => rfl) rfl (Nat.le_of_ble_eq_true rfl) rfl (r_X8_isRefused (P := False) hV hR yp (fun k1 => ?_) (fun k1 k2 => ?_) (fun k1 k2 => ?_))
    · refine xa_if_ne (tgt := 51) eX8_setArrival_34 (by decide) (by omega) (fun c34 => ?_) (fun c34 => ?_)
      · exact xa_vret eX8_setArrival_51 rfl ⟨rfl, by have h9 := hq; unfold o_setArrival at h9; rw [if_neg k1] at h9; exact h9 _ _ rfr.t (by rw [up_same]; rfl) hR⟩
      · exact absurd c34 (by decide)
    · refine xa_if_ne (tgt := 51) eX8_setArrival_34 (by decide) (by omega) (fun c34 => ?_) (fun c34 => ?_)
      · exact xa_vret eX8_setArrival_51 rfl ⟨rfl, by have h9 := hq; unfold o_setArrival at h9; rw [if_pos k1, if_neg c11] at h9; exact h9 _ _ rfr.t (by rw [up_same]; rfl) hR⟩
      · exact absurd c34 (by decide)
    · refine xa_if_ne (tgt := 51) eX8_setArrival_34 (by decide) (by omega) (fun c34 => ?_) (fun c34 => ?_)
      · exact absurd rfl c34
      · refine xs_aload_0 eX8_setArrival_37 ?_
        refine xs_iload_1 eX8_setArrival_38 ?_
        refine xa_iconst eX8_setArrival_39 ?_
        refine xs_iload_2 eX8_setArrival_40 ?_
        refine xbv_V30 (mi' := mX8_put) (y := yX8_put) eX8_setArrival_41 (xw_5 lRX8_79 wy_X8_put) rfl ⟨wd_X8_put, by decide, by decide⟩ (by decide) (fun _ => rfl) rfl (Nat.le_of_ble_eq_true rfl) rfl (r_X8_put (p := p.toNat) (g := 3) hR (by omega) rfl (by omega) h8 hN20 (by decide) ye (fun M2 hR2 => ?_))
        refine xs_aload_0 eX8_setArrival_44 ?_
        refine xs_iload_1 eX8_setArrival_45 ?_
        refine xa_iconst eX8_setArrival_46 ?_
        refine xs_iload_3 eX8_setArrival_47 ?_
        refine xbv_V30 (mi' := mX8_put) (y := yX8_put) eX8_setArrival_48 (xw_5 lRX8_79 wy_X8_put) rfl ⟨wd_X8_put, by decide, by decide⟩ (by decide) (fun _ => rfl) rfl (Nat.le_of_ble_eq_true rfl) rfl (r_X8_put (p := p.toNat) (g := 4) hR2 (by omega) rfl (by omega) h8 hN20 (by decide) ya (fun M3 hR3 => ?_))
        exact xa_vret eX8_setArrival_51 rfl ⟨rfl, by exact k2.elim⟩
  · refine xs_iload_3 eX8_setArrival_14 ?_
    refine xa_i2l eX8_setArrival_15 (by omega) ?_
    refine xa_lconst0 eX8_setArrival_16 ?_
    refine xa_ldc2 (a := 60) eX8_setArrival_17 lRX8_106 (by decide) ?_
    refine xbi_S30 (mi' := mX8_isBetween) (y := yX8_isBetween) eX8_setArrival_20 (xw_4 lRX8_61 wy_X8_isBetween) rfl rfl ⟨wd_X8_isBetween, by decide, by decide⟩ (Nat.le_of_ble_eq_true rfl) rfl (k_X8_isBetween (by omega) (by decide) (by decide) ?_)
    refine xa_ifb_eq (tgt := 30) eX8_setArrival_23 (by decide) (fun c23 => ?_) (fun c23 => ?_)
    · refine xa_iconst eX8_setArrival_30 ?_
      refine xbi_V20 (mi' := mX8_isRefused) (y := yX8_isRefused) eX8_setArrival_31 (xw_5 lRX8_102 wy_X8_isRefused) rfl ⟨wd_X8_isRefused, by decide, by decide⟩ (by decide) (fun _ => rfl) rfl (Nat.le_of_ble_eq_true rfl) rfl (r_X8_isRefused (P := False) hV hR yp (fun k1 => ?_) (fun k1 k2 => ?_) (fun k1 k2 => ?_))
      · refine xa_if_ne (tgt := 51) eX8_setArrival_34 (by decide) (by omega) (fun c34 => ?_) (fun c34 => ?_)
        · exact xa_vret eX8_setArrival_51 rfl ⟨rfl, by have h9 := hq; unfold o_setArrival at h9; rw [if_neg k1] at h9; exact h9 _ _ rfr.t (by rw [up_same]; rfl) hR⟩
        · exact absurd c34 (by decide)
      · refine xa_if_ne (tgt := 51) eX8_setArrival_34 (by decide) (by omega) (fun c34 => ?_) (fun c34 => ?_)
        · exact xa_vret eX8_setArrival_51 rfl ⟨rfl, by have h9 := hq; unfold o_setArrival at h9; rw [if_pos k1, if_pos c11, if_neg c23] at h9; exact h9 _ _ rfr.t (by rw [up_same]; rfl) hR⟩
        · exact absurd c34 (by decide)
      · refine xa_if_ne (tgt := 51) eX8_setArrival_34 (by decide) (by omega) (fun c34 => ?_) (fun c34 => ?_)
        · exact absurd rfl c34
        · refine xs_aload_0 eX8_setArrival_37 ?_
          refine xs_iload_1 eX8_setArrival_38 ?_
          refine xa_iconst eX8_setArrival_39 ?_
          refine xs_iload_2 eX8_setArrival_40 ?_
          refine xbv_V30 (mi' := mX8_put) (y := yX8_put) eX8_setArrival_41 (xw_5 lRX8_79 wy_X8_put) rfl ⟨wd_X8_put, by decide, by decide⟩ (by decide) (fun _ => rfl) rfl (Nat.le_of_ble_eq_true rfl) rfl (r_X8_put (p := p.toNat) (g := 3) hR (by omega) rfl (by omega) h8 hN20 (by decide) ye (fun M2 hR2 => ?_))
          refine xs_aload_0 eX8_setArrival_44 ?_
          refine xs_iload_1 eX8_setArrival_45 ?_
          refine xa_iconst eX8_setArrival_46 ?_
          refine xs_iload_3 eX8_setArrival_47 ?_
          refine xbv_V30 (mi' := mX8_put) (y := yX8_put) eX8_setArrival_48 (xw_5 lRX8_79 wy_X8_put) rfl ⟨wd_X8_put, by decide, by decide⟩ (by decide) (fun _ => rfl) rfl (Nat.le_of_ble_eq_true rfl) rfl (r_X8_put (p := p.toNat) (g := 4) hR2 (by omega) rfl (by omega) h8 hN20 (by decide) ya (fun M3 hR3 => ?_))
          exact xa_vret eX8_setArrival_51 rfl ⟨rfl, by exact k2.elim⟩
    · refine xa_iconst eX8_setArrival_26 ?_
      refine xa_goto (tgt := 31) eX8_setArrival_27 (by decide) ?_
      refine xbi_V20 (mi' := mX8_isRefused) (y := yX8_isRefused) eX8_setArrival_31 (xw_5 lRX8_102 wy_X8_isRefused) rfl ⟨wd_X8_isRefused, by decide, by decide⟩ (by decide) (fun _ => rfl) rfl (Nat.le_of_ble_eq_true rfl) rfl (r_X8_isRefused (P := True) hV hR yp (fun k1 => ?_) (fun k1 k2 => ?_) (fun k1 k2 => ?_))
      · refine xa_if_ne (tgt := 51) eX8_setArrival_34 (by decide) (by omega) (fun c34 => ?_) (fun c34 => ?_)
        · exact xa_vret eX8_setArrival_51 rfl ⟨rfl, by have h9 := hq; unfold o_setArrival at h9; rw [if_neg k1] at h9; exact h9 _ _ rfr.t (by rw [up_same]; rfl) hR⟩
        · exact absurd c34 (by decide)
      · refine xa_if_ne (tgt := 51) eX8_setArrival_34 (by decide) (by omega) (fun c34 => ?_) (fun c34 => ?_)
        · exact xa_vret eX8_setArrival_51 rfl ⟨rfl, by exact absurd trivial k2⟩
        · exact absurd c34 (by decide)
      · refine xa_if_ne (tgt := 51) eX8_setArrival_34 (by decide) (by omega) (fun c34 => ?_) (fun c34 => ?_)
        · exact absurd rfl c34
        · refine xs_aload_0 eX8_setArrival_37 ?_
          refine xs_iload_1 eX8_setArrival_38 ?_
          refine xa_iconst eX8_setArrival_39 ?_
          refine xs_iload_2 eX8_setArrival_40 ?_
          refine xbv_V30 (mi' := mX8_put) (y := yX8_put) eX8_setArrival_41 (xw_5 lRX8_79 wy_X8_put) rfl ⟨wd_X8_put, by decide, by decide⟩ (by decide) (fun _ => rfl) rfl (Nat.le_of_ble_eq_true rfl) rfl (r_X8_put (p := p.toNat) (g := 3) hR (by omega) rfl (by omega) h8 hN20 (by decide) ye (fun M2 hR2 => ?_))
          refine xs_aload_0 eX8_setArrival_44 ?_
          refine xs_iload_1 eX8_setArrival_45 ?_
          refine xa_iconst eX8_setArrival_46 ?_
          refine xs_iload_3 eX8_setArrival_47 ?_
          refine xbv_V30 (mi' := mX8_put) (y := yX8_put) eX8_setArrival_48 (xw_5 lRX8_79 wy_X8_put) rfl ⟨wd_X8_put, by decide, by decide⟩ (by decide) (fun _ => rfl) rfl (Nat.le_of_ble_eq_true rfl) rfl (r_X8_put (p := p.toNat) (g := 4) hR2 (by omega) rfl (by omega) h8 hN20 (by decide) ya (fun M3 hR3 => ?_))
          exact xa_vret eX8_setArrival_51 rfl ⟨rfl, by have h9 := hq; unfold o_setArrival at h9; rw [if_pos k1, if_pos c11, if_pos c23] at h9; exact h9 _ _ rfr.t (by rw [up_same]; rfl) hR3⟩
set_option maxHeartbeats 400000 in
theorem F_process {w : xW} {S : xS} {B : String → xS → Prop} {A : Int → xS → Prop} {p a : Int} {n N : Nat} {T : Int} (hV : VS 0 n N T S) (hT : T ≤ 800000) (yp : xr p) (ya : xr a)  (hA : ∀ S', (o_process p a n N S).1 = 0 → scr S' (o_process p a n N S).2.2.2.2 → A (o_process p a n N S).2.1 S') (hB1 : ∀ S', (o_process p a n N S).1 = 1 → scr S' S → B "java/lang/IndexOutOfBoundsException" S') (hB2 : ∀ S', (o_process p a n N S).1 = 2 → scr S' S → B "java/lang/IllegalArgumentException" S') : Ki w mX7_process yX7_process 1 6 [xp 0 0, xi p, xi a] S A B := by
  refine K.of rfl rfl rfl rfl (Nat.le_of_ble_eq_true rfl) rfl ?_
  obtain ⟨hVT, hN20, h8, hg, hp, ho, hs⟩ := id hV
  have hn := hg.1
  have hN := hVT.1
  have ht := hVT.2.2.1
  refine xs_aload_0 eX7_process_0 ?_
  refine g_X7_0 eX7_process_1 lRX7_10 ?_
  refine xs_iload_1 eX7_process_4 ?_
  by_cases c5 : 0 ≤ p ∧ p < (n : Int)
  · refine xbo_V10 (mi' := mX4_knownProcess) (y := yX4_knownProcess) eX7_process_5 (xw_5 lRX7_60 wy_X4_knownProcess) rfl ⟨wd_X4_knownProcess, by decide, by decide⟩ (by decide) (fun _ => rfl) rfl (Nat.le_of_ble_eq_true rfl) rfl (kI_X4_knownProcess hn h8 c5 ?_)
    refine xs_astore_3 eX7_process_8 rfl ?_
    refine xs_iload_2 eX7_process_9 ?_
    refine xa_iconst eX7_process_10 ?_
    refine xa_bipush eX7_process_11 (by decide) ?_
    by_cases c13 : 0 ≤ a ∧ a ≤ 11
    · refine xbv_S30 (mi' := mX7_checkRange) (y := yX7_checkRange) eX7_process_13 (xw_4 lRX7_45 wy_X7_checkRange) rfl rfl ⟨wd_X7_checkRange, by decide, by decide⟩ (Nat.le_of_ble_eq_true rfl) rfl (kk_X7_checkRange ya (by decide) (by decide) c13 ?_)
      refine xs_iload_2 eX7_process_16 ?_
      refine xa_bipush eX7_process_17 (by decide) ?_
      refine xa_icmp_ne (tgt := 36) eX7_process_19 (by decide) ya (by decide) (fun c19 => ?_) (fun c19 => ?_)
      · refine xs_aload_3 eX7_process_36 ?_
        refine xs_iload_2 eX7_process_37 ?_
        refine xbi_V10 (mi' := mX0_figure) (y := yX0_figure) eX7_process_38 (xw_5 lRX7_95 wy_X0_figure) rfl ⟨wd_X0_figure, by decide, by decide⟩ (by decide) (fun _ => rfl) rfl (Nat.le_of_ble_eq_true rfl) rfl (k_X0_figure (by omega) ?_)
        exact xa_iret eX7_process_41 rfl ⟨_, rfl, by have h9 := hA; unfold o_process at h9; rw [if_pos c5, if_pos c13, if_neg (by omega)] at h9; exact h9 _ rfl scr.rf⟩
      · refine xs_aload_0 eX7_process_22 ?_
        refine g_X7_0 eX7_process_23 lRX7_10 ?_
        refine g_X4_0 eX7_process_26 lRX7_88 ?_
        refine xs_iload_1 eX7_process_29 ?_
        refine xbi_V10 (mi' := mX5_countOwnedBy) (y := yX5_countOwnedBy) eX7_process_30 (xw_5 lRX7_91 wy_X5_countOwnedBy) rfl ⟨wd_X5_countOwnedBy, by decide, by decide⟩ (by decide) (fun _ => rfl) rfl (Nat.le_of_ble_eq_true rfl) rfl (k_X5_countOwnedBy yp hN (by omega) ?_)
        refine xa_goto (tgt := 41) eX7_process_33 (by decide) ?_
        exact xa_iret eX7_process_41 rfl ⟨_, rfl, by have h9 := hA; unfold o_process at h9; rw [if_pos c5, if_pos c13, if_pos (by omega)] at h9; exact h9 _ rfl scr.rf⟩
    · exact xbv_S3 (mi' := mX7_checkRange) (y := yX7_checkRange) eX7_process_13 (xw_4 lRX7_45 wy_X7_checkRange) rfl rfl ⟨wd_X7_checkRange, by decide, by decide⟩ (Nat.le_of_ble_eq_true rfl) rfl ⟨by decide, by decide⟩ (kt_X7_checkRange ya (by decide) (by decide) c13 (xt_out rfl (hB2 S (by unfold o_process; rw [if_pos c5, if_neg c13]) scr.rf)))
  · exact xbo_V1 (mi' := mX4_knownProcess) (y := yX4_knownProcess) eX7_process_5 (xw_5 lRX7_60 wy_X4_knownProcess) rfl ⟨wd_X4_knownProcess, by decide, by decide⟩ (by decide) (fun _ => rfl) rfl (Nat.le_of_ble_eq_true rfl) rfl ⟨by decide, by decide⟩ (kt_X4_knownProcess hn h8 yp c5 (xt_out rfl (hB1 S (by unfold o_process; rw [if_neg c5]) scr.rf)))
set_option maxHeartbeats 400000 in
theorem G_process {w : xW} {S : xS} {B : String → xS → Prop} {A : Int → xS → Prop} {p a : Int} {n N : Nat} {T : Int} {C : xS} {M : Nat → Int} (hV : VS 0 n N T C) (hT : T ≤ 800000) (hR : Rel 0 n N C M) (yp : xr p) (ya : xr a)  (hq : ∀ r S' M', ((o_process p a n N C).1 = 0 → r = (o_process p a n N C).2.1) → rfr S' S → S' 30 0 4 = ((o_process p a n N C).1 : Int) → Rel 0 (o_process p a n N C).2.2.1 (o_process p a n N C).2.2.2.1 (o_process p a n N C).2.2.2.2 M' → A r (stM M' S')) : Ki w mX8_process yX8_process 0 0 [xp 30 0, xi p, xi a] (stM M S) A B := by
  refine K.of rfl rfl rfl rfl (Nat.le_of_ble_eq_true rfl) rfl ?_
  obtain ⟨hVT, hN20, h8, hg, hp, ho, hs⟩ := id hV
  have hn := hg.1
  have hN := hVT.1
  have ht := hVT.2.2.1
  refine xs_aload_0 eX8_process_0 ?_
  refine xs_iload_1 eX8_process_1 ?_
  refine xs_iload_2 eX8_process_2 ?_
  refine xa_i2l eX8_process_3 (by omega) ?_
  refine xa_lconst0 eX8_process_4 ?_
  refine xa_ldc2 (a := 11) eX8_process_5 lRX8_125 (by decide) ?_
  refine xbi_S30 (mi' := mX8_isBetween) (y := yX8_isBetween) eX8_process_8 (xw_4 lRX8_61 wy_X8_isBetween) rfl rfl ⟨wd_X8_isBetween, by decide, by decide⟩ (Nat.le_of_ble_eq_true rfl) rfl (k_X8_isBetween (by omega) (by decide) (by decide) ?_)
  refine xbi_V20 (mi' := mX8_isRefused) (y := yX8_isRefused) eX8_process_11 (xw_5 lRX8_102 wy_X8_isRefused) rfl ⟨wd_X8_isRefused, by decide, by decide⟩ (by decide) (fun _ => rfl) rfl (Nat.le_of_ble_eq_true rfl) rfl (r_X8_isRefused hV hR yp (fun k1 => ?_) (fun k1 k2 => ?_) (fun k1 k2 => ?_))
  · refine xa_if_eq (tgt := 19) eX8_process_14 (by decide) (by omega) (fun c14 => ?_) (fun c14 => ?_)
    · exact absurd c14 (by decide)
    · refine xa_iconst eX8_process_17 ?_
      exact xa_iret eX8_process_18 rfl ⟨_, rfl, by have h9 := hq; unfold o_process at h9; rw [if_neg k1] at h9; exact h9 _ _ _ (fun z => absurd z (Nat.succ_ne_zero _)) rfr.t (by rw [up_same]; rfl) hR⟩
  · refine xa_if_eq (tgt := 19) eX8_process_14 (by decide) (by omega) (fun c14 => ?_) (fun c14 => ?_)
    · exact absurd c14 (by decide)
    · refine xa_iconst eX8_process_17 ?_
      exact xa_iret eX8_process_18 rfl ⟨_, rfl, by have h9 := hq; unfold o_process at h9; rw [if_pos k1, if_neg k2] at h9; exact h9 _ _ _ (fun z => absurd z (Nat.succ_ne_zero _)) rfr.t (by rw [up_same]; rfl) hR⟩
  · refine xa_if_eq (tgt := 19) eX8_process_14 (by decide) (by omega) (fun c14 => ?_) (fun c14 => ?_)
    · refine xs_iload_2 eX8_process_19 ?_
      refine xa_bipush eX8_process_20 (by decide) ?_
      refine xa_icmp_ge (tgt := 34) eX8_process_22 (by decide) ya (by decide) (fun c22 => ?_) (fun c22 => ?_)
      · refine xs_aload_0 eX8_process_34 ?_
        refine xs_iload_1 eX8_process_35 ?_
        refine xbi_V10 (mi' := mX8_owned) (y := yX8_owned) eX8_process_36 (xw_5 lRX8_127 wy_X8_owned) rfl ⟨wd_X8_owned, by decide, by decide⟩ (by decide) (fun _ => rfl) rfl (Nat.le_of_ble_eq_true rfl) rfl (r_X8_owned hV hR yp ?_)
        exact xa_iret eX8_process_39 rfl ⟨_, rfl, by have h9 := hq; unfold o_process at h9; rw [if_pos k1, if_pos k2, if_pos (by omega)] at h9; exact h9 _ _ _ (fun _ => rfl) rfr.t (by rw [up_same]; rfl) hR⟩
      · refine xs_aload_0 eX8_process_25 ?_
        refine xs_iload_1 eX8_process_26 ?_
        refine xs_iload_2 eX8_process_27 ?_
        refine xbi_V20 (mi' := mX8_of) (y := yX8_of) eX8_process_28 (xw_5 lRX8_70 wy_X8_of) rfl ⟨wd_X8_of, by decide, by decide⟩ (by decide) (fun _ => rfl) rfl (Nat.le_of_ble_eq_true rfl) rfl (r_X8_of (p := p.toNat) (g := a.toNat) hR (by omega) (by omega) (by omega) h8 (by omega) ?_)
        refine xa_goto (tgt := 39) eX8_process_31 (by decide) ?_
        exact xa_iret eX8_process_39 rfl ⟨_, rfl, by have h9 := hq; unfold o_process at h9; rw [if_pos k1, if_pos k2, if_neg (by omega)] at h9; exact h9 _ _ _ (fun _ => rfl) rfr.t (by rw [up_same]; rfl) hR⟩
    · exact absurd rfl c14
