/-! the class: a whole text -/
theorem wdF_p {B : Nat → Int} {k p : Nat} (h : isL (B p)) : p + 1 ≤ wdF B (k + 1) p := by
  have h9 := wdF_r (B := B) k (p + 1)
  rw [wdF, if_pos h]
  omega
theorem dgF_p {B : Nat → Int} {k p : Nat} (h : isD (B p)) : p + 1 ≤ dgF B (k + 1) p := by
  have h9 := dgF_r (B := B) k (p + 1)
  rw [dgF, if_pos h]
  omega
theorem nx_m {n : Nat} {S : xS} (hP : PT n S) : S 3 0 8 ≤ nx n S 3 0 8 ∧ (nx n S 3 0 6 ≠ 0 → S 3 0 8 + 1 ≤ nx n S 3 0 8) := by
  obtain ⟨h1, h2, h3, h4, h5, h6⟩ := hP
  have hs := spF_r (B := S 24 0) (n - (S 3 0 8).toNat) (S 3 0 8).toNat
  have e8 : nx n S 3 0 8 = ((tkE (S 24 0) n (spF (S 24 0) (n - (S 3 0 8).toNat) (S 3 0 8).toNat) : Nat) : Int) := rfl
  have e6 : nx n S 3 0 6 = tkK (S 24 0) n (spF (S 24 0) (n - (S 3 0 8).toNat) (S 3 0 8).toNat) := rfl
  rw [e8, e6]
  generalize spF (S 24 0) (n - (S 3 0 8).toNat) (S 3 0 8).toNat = q at hs
  have he := tkE_r (B := S 24 0) (n := n) (s := q) (by omega)
  refine ⟨by omega, fun hk => ?_⟩
  unfold tkK at hk
  unfold tkE
  by_cases c : n ≤ q
  · rw [if_pos c] at hk; exact absurd rfl hk
  · rw [if_neg c]
    by_cases c2 : isL (S 24 0 q)
    · rw [if_pos c2]
      have h9 := wdF_p (k := n - q - 1) c2
      rw [show n - q - 1 + 1 = n - q by omega] at h9
      omega
    · rw [if_neg c2]
      by_cases c3 : isD (S 24 0 q)
      · rw [if_pos c3]
        have h9 := dgF_p (k := n - q - 1) c3
        rw [show n - q - 1 + 1 = n - q by omega] at h9
        omega
      · rw [if_neg c3]; omega
theorem rdN_m {n : Nat} {lo hi : Int} {S : xS} (hP : PT n S) (e : (rdN n lo hi S).1 = true) : S 3 0 8 ≤ (rdN n lo hi S).2 3 0 8 := by
  rw [(rdN_t e).1]
  exact (nx_m hP).1
theorem rdPen_m {n k N : Nat} {T : Int} {S : xS} (h : VP n k N T S) (e : (rdPen n S).1 = true) : S 3 0 8 ≤ (rdPen n S).2 3 0 8 := by
  have b := bnd_t e
  have p := rdN_V h b.1
  show S 3 0 8 ≤ (bnd _ _).2 3 0 8
  rw [b.2]
  exact Int.le_trans (rdN_m h.1 b.1) (nx_m (PT_up p.1.1 (by decide))).1
theorem rdFee_m {n k N : Nat} {T : Int} {S : xS} (h : VP n k N T S) (e : (rdFee n S).1 = true) : S 3 0 8 ≤ (rdFee n S).2 3 0 8 := by
  have b := bnd_t e
  have p := rdN_V h b.1
  show S 3 0 8 ≤ (bnd _ _).2 3 0 8
  rw [b.2]
  exact Int.le_trans (rdN_m h.1 b.1) (nx_m (PT_up p.1.1 (by decide))).1
theorem rdPri_m {n k N : Nat} {T : Int} {S : xS} (h : VP n k N T S) (e : (rdPri n S).1 = true) : S 3 0 8 ≤ (rdPri n S).2 3 0 8 := by
  have b := bnd_t e
  have p := rdN_V h b.1
  show S 3 0 8 ≤ (bnd _ _).2 3 0 8
  rw [b.2]
  exact Int.le_trans (rdN_m h.1 b.1) (nx_m (PT_up p.1.1 (by decide))).1
theorem rdArr_m {n k N : Nat} {T : Int} {S : xS} (h : VP n k N T S) (e : (rdArr n S).1 = true) : S 3 0 8 ≤ (rdArr n S).2 3 0 8 := by
  have b := bnd_t e
  have p := rdN_V h b.1
  have hm1 := rdN_m h.1 b.1
  unfold rdArr at e ⊢
  rw [b.2] at e ⊢
  have b2 := bnd_t e
  have q1 : PT n (up (rdN n 0 60 S).2 4 (8 * 4 + (S 1 4 3 - 1).toNat) 3 ((rdN n 0 60 S).2 3 0 9)) := PT_up p.1.1 (by decide)
  have p2 := rdN_P q1 b2.1
  have hm2 := rdN_m q1 b2.1
  rw [b2.2]
  exact Int.le_trans hm1 (Int.le_trans hm2 (nx_m (PT_up p2.1 (by decide))).1)
theorem rdPro_m {n k N : Nat} {T : Int} {S : xS} (h : VP n k N T S) (e : (rdPro n S).1 = true) : S 3 0 8 ≤ (rdPro n S).2 3 0 8 := by
  unfold rdPro at e ⊢
  by_cases c : S 1 4 3 < 8
  · rw [if_pos c] at e ⊢
    have b := bnd_t e
    have p := rdN_V h b.1
    have m1 := rdN_m h.1 b.1
    rw [b.2] at e ⊢
    have b2 := bnd_t e
    have p2 := rdN_V p.1 b2.1
    have m2 := rdN_m p.1.1 b2.1
    rw [b2.2] at e ⊢
    have b3 := bnd_t e
    have p3 := rdN_V p2.1 b3.1
    have m3 := rdN_m p2.1.1 b3.1
    rw [b3.2]
    exact Int.le_trans m1 (Int.le_trans m2 (Int.le_trans m3 (nx_m (PT_ent p3.1.1)).1))
  · rw [if_neg c] at e; cases e
theorem PT_add {n N : Nat} {o p b d : Int} {S : xS} (h : PT n S) : PT n (addT 4 N o p b d S) := by
  unfold PT at h ⊢
  rw [show addT 4 N o p b d S 3 = S 3 by funext y g; unfold addT; rw [if_neg (by omega), if_neg (by omega)]]
  exact h
theorem rdPrm_m {n k N : Nat} {T : Int} {S : xS} (h : VP n k N T S) (e : (rdPrm n N S).1 = true) : S 3 0 8 ≤ (rdPrm n N S).2 3 0 8 := by
  unfold rdPrm at e ⊢
  by_cases c : S 2 4 1 < 20
  · rw [if_pos c] at e ⊢
    have b := bnd_t e
    have p := rdN_V h b.1
    have m1 := rdN_m h.1 b.1
    rw [b.2] at e ⊢
    have b2 := bnd_t e
    have p2 := rdN_V p.1 b2.1
    have m2 := rdN_m p.1.1 b2.1
    rw [b2.2] at e ⊢
    generalize rdN n 2 120 (rdN n 0 (S 1 4 3 - 1) S).2 = r2 at *
    by_cases c2 : perP (r2.2 3 0 9)
    · rw [if_pos c2] at e ⊢
      have b3 := bnd_t e
      have p3 := rdN_V p2.1 b3.1
      have m3 := rdN_m p2.1.1 b3.1
      rw [b3.2] at e ⊢
      generalize rdN n 1 120 r2.2 = r3 at *
      have b4 := bnd_t e
      have p4 := rdN_V p3.1 b4.1
      have m4 := rdN_m p3.1.1 b4.1
      rw [b4.2] at e ⊢
      generalize rdN n (r3.2 3 0 9) (r2.2 3 0 9) r3.2 = r4 at *
      by_cases c3 : accF 4 7 N (r2.2 3 0 9) (r3.2 3 0 9) (r4.2 3 0 9) r4.2 = true
      · rw [if_pos c3]
        exact Int.le_trans m1 (Int.le_trans m2 (Int.le_trans m3 (Int.le_trans m4 (nx_m (PT_add p4.1.1)).1)))
      · rw [if_neg c3] at e; cases e
    · rw [if_neg c2] at e; cases e
  · rw [if_neg c] at e; cases e
theorem rdStm_V {n k N : Nat} {T : Int} {S : xS} (h : VP n k N T S) (hT : 0 ≤ T) (e : (rdStm n N S).1 = true) : ∃ k' N', VP n k' N' T (rdStm n N S).2 ∧ S 3 0 8 ≤ (rdStm n N S).2 3 0 8 := by
  unfold rdStm at e ⊢
  by_cases c0 : isW 0 S
  · rw [if_pos c0] at e ⊢; exact ⟨k, N, rdPen_V h e, rdPen_m h e⟩
  · rw [if_neg c0] at e ⊢
    by_cases c1 : isW 1 S
    · rw [if_pos c1] at e ⊢; exact ⟨k, N, rdFee_V h e, rdFee_m h e⟩
    · rw [if_neg c1] at e ⊢
      by_cases c2 : isW 2 S
      · rw [if_pos c2] at e ⊢
        have b := bnd_t e
        have v := rdPro_V h hT b.1
        have m := rdPro_m h b.1
        rw [b.2] at e ⊢
        by_cases c3 : isW 3 (rdPro n S).2
        · rw [if_pos c3] at e ⊢; exact ⟨k + 1, N, rdArr_V v.2 (by omega) e, Int.le_trans m (rdArr_m v.2 e)⟩
        · rw [if_neg c3] at e ⊢; exact ⟨k + 1, N, v.2, m⟩
      · rw [if_neg c2] at e ⊢
        by_cases c4 : isW 4 S
        · rw [if_pos c4] at e ⊢
          have b := bnd_t e
          have v := rdPrm_V h b.1
          have m := rdPrm_m h b.1
          rw [b.2] at e ⊢
          by_cases c5 : isW 5 (rdPrm n N S).2
          · rw [if_pos c5] at e ⊢; exact ⟨k, N + 1, rdPri_V v.2 (by omega) e, Int.le_trans m (rdPri_m v.2 e)⟩
          · rw [if_neg c5] at e ⊢; exact ⟨k, N + 1, v.2, m⟩
        · rw [if_neg c4] at e; cases e
theorem rdSem_V {n k N : Nat} {T : Int} {S : xS} (h : VP n k N T S) (e : (rdSem n S).1 = true) : VP n k N T (rdSem n S).2 ∧ ((rdSem n S).2 3 0 6 = 0 ∨ S 3 0 8 + 1 ≤ (rdSem n S).2 3 0 8) := by
  unfold rdSem at e ⊢
  by_cases c : S 3 0 6 = 3
  · rw [if_pos c]
    have m := nx_m h.1
    refine ⟨h.nx, ?_⟩
    by_cases c2 : nx n S 3 0 6 = 0
    · exact Or.inl c2
    · exact Or.inr (m.2 c2)
  · rw [if_neg c] at e; cases e
/-- the statements of a text, one after another, up to what timeline 7 holds -/
def chn (n : Nat) : Nat → xS → Bool × xS → Prop
  | 0, S, r => S 3 0 6 = 0 ∧ r = (true, S)
  | f + 1, S, r => (S 3 0 6 = 0 ∧ r = (true, S)) ∨ (S 3 0 6 ≠ 0 ∧ ∃ S1, xtl 7 S1 (rdStm n (S 2 4 1).toNat S).2 ∧ (((rdStm n (S 2 4 1).toNat S).1 = true ∧ (rdSem n S1).1 = true ∧ chn n f (rdSem n S1).2 r) ∨ ((rdStm n (S 2 4 1).toNat S).1 = true ∧ (rdSem n S1).1 = false ∧ r = (false, (rdSem n S1).2)) ∨ ((rdStm n (S 2 4 1).toNat S).1 = false ∧ r = (false, S1))))
theorem chn_end {n f : Nat} {S : xS} (h : S 3 0 6 = 0) : chn n f S (true, S) := by
  cases f with
  | zero => exact ⟨h, rfl⟩
  | succ f => exact Or.inl ⟨h, rfl⟩
set_option maxHeartbeats 400000 in
theorem l_X3_parse {w : xW} {S : xS} {B : String → xS → Prop} {A : Int → xS → Prop} {n k N : Nat} {T : Int} (hT : 0 ≤ T ∧ T ≤ 900000) (hV : VP n k N T S) (hJ : S 3 0 6 = 0 ∨ 1 ≤ S 3 0 8) (hq : ∀ r : Bool × xS, chn n n S r → A (b2i (r.1 = true)) r.2) : X w mX3_parse (xTG w (fun v S' => ∃ a, v = some (xi a) ∧ A a S') B) 0 0 28 [xp 3 0, xi 0] [] S := by
  have lp : ∀ i : Nat, i ≤ n → ∀ (S2 : xS) (k N : Nat), VP n k N T S2 ∧ (S2 3 0 6 = 0 ∨ (i : Int) + 1 ≤ S2 3 0 8) ∧ (∀ r, chn n (n - i) S2 r → chn n n S r) → X w mX3_parse (xTG w (fun v S' => ∃ a, v = some (xi a) ∧ A a S') B) 0 0 28 [xp 3 0, xi (i : Int)] [] S2 := by
    refine nloop n (fun i hi ih S2 k N hI => ?_)
    obtain ⟨b1, b2, b3, b4, b5, b6⟩ := id hI.1.1
    refine xs_iload_1 eX3_parse_28 ?_
    refine xs_aload_0 eX3_parse_29 ?_
    refine gr_X3_1 eX3_parse_30 lRX3_42 (fun r30 => ?_)
    refine xa_icmp_ge (tgt := 68) eX3_parse_33 (by decide) (by omega) (by omega) (fun c33 => ?_) (fun c33 => ?_)
    · refine xa_iconst eX3_parse_68 ?_
      exact xa_zret eX3_parse_69 rfl (by decide) ⟨_, rfl, hq (true, S2) (hI.2.2 _ (chn_end (by rcases hI.2.1 with z | z <;> omega)))⟩
    · refine xs_aload_0 eX3_parse_36 ?_
      refine g_X3_6 eX3_parse_37 lRX3_39 ?_
      refine xa_tok (i := 0) eX3_parse_40 (by decide) lRX3_33 ?_
      refine xa_acmp_eq (tgt := 68) eX3_parse_43 (by decide) (by omega) (by decide) (fun c43 => ?_) (fun c43 => ?_)
      · refine xa_iconst eX3_parse_68 ?_
        exact xa_zret eX3_parse_69 rfl (by decide) ⟨_, rfl, hq (true, S2) (hI.2.2 _ (chn_end (by omega)))⟩
      · have hN9 : N = (S2 2 4 1).toNat := by rw [hI.1.2.1.1]; rfl
        refine xs_aload_0 eX3_parse_46 ?_
        refine xbi_V00 (mi' := mX3_readStatement) (y := yX3_readStatement) eX3_parse_47 (xw_5 lRX3_57 wy_X3_readStatement) rfl ⟨wd_X3_readStatement, by decide, by decide⟩ (by decide) (fun _ => rfl) rfl (Nat.le_of_ble_eq_true rfl) rfl (f_X3_readStatement hI.1 hT (fun S1 hx1 => ?_))
        refine xa_ifb_eq (tgt := 60) eX3_parse_50 (by decide) (fun c50 => ?_) (fun c50 => ?_)
        · refine xa_iconst eX3_parse_60 ?_
          exact xa_zret eX3_parse_61 rfl (by decide) ⟨_, rfl, hq (false, S1) (hI.2.2 _ (by rw [show n - i = (n - (i + 1)) + 1 by omega]; exact Or.inr ⟨by omega, S1, by rw [← hN9]; exact hx1, Or.inr (Or.inr ⟨by rw [← hN9]; simpa using c50, rfl⟩)⟩))⟩
        · obtain ⟨k2, N2, v0, m0⟩ := rdStm_V hI.1 hT.1 c50
          have v2 := v0.x7 hx1
          have m1 : (rdStm n N S2).2 3 0 8 = S1 3 0 8 := by rw [hx1 3 0 (by omega) (by omega)]
          refine xs_aload_0 eX3_parse_53 ?_
          refine xbi_V00 (mi' := mX3_readSemicolon) (y := yX3_readSemicolon) eX3_parse_54 (xw_5 lRX3_61 wy_X3_readSemicolon) rfl ⟨wd_X3_readSemicolon, by decide, by decide⟩ (by decide) (fun _ => rfl) rfl (Nat.le_of_ble_eq_true rfl) rfl (f_X3_readSemicolon v2.1 ?_)
          refine xa_ifb_ne (tgt := 62) eX3_parse_57 (by decide) (fun c57 => ?_) (fun c57 => ?_)
          · refine xs_iinc_1 eX3_parse_62 rfl ?_
            refine xa_goto (tgt := 28) eX3_parse_65 (by decide) ?_
            have v3 := rdSem_V v2 c57
            have h9 := ih (i + 1) (by omega) (by omega) (rdSem n S1).2 k2 N2 ⟨v3.1, v3.2.imp id (fun z => by rcases hI.2.1 with y | y <;> omega), fun r hr => hI.2.2 r (by rw [show n - i = (n - (i + 1)) + 1 by omega]; exact Or.inr ⟨by omega, S1, by rw [← hN9]; exact hx1, Or.inl ⟨by rw [← hN9]; exact c50, c57, hr⟩⟩)⟩
            rw [show (i : Int) + 1 = ((i + 1 : Nat) : Int) by omega]
            exact h9
          · refine xa_iconst eX3_parse_60 ?_
            exact xa_zret eX3_parse_61 rfl (by decide) ⟨_, rfl, hq (false, (rdSem n S1).2) (hI.2.2 _ (by rw [show n - i = (n - (i + 1)) + 1 by omega]; exact Or.inr ⟨by omega, S1, by rw [← hN9]; exact hx1, Or.inr (Or.inl ⟨by rw [← hN9]; exact c50, by simpa using c57, rfl⟩)⟩))⟩
  exact lp 0 (by omega) S k N ⟨hV, by omega, fun r hr => hr⟩
