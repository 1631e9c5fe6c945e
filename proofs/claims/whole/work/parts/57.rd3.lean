/-! the class: reading promises -/
theorem xtl.upx {u k j f : Nat} {v : Int} {S' S : xS} (h : xtl u S' S) : xtl u (up S' k j f v) (up S k j f v) := by
  intro x y h1 h2
  funext g
  unfold up
  rw [h x y h1 h2]
theorem xtl.fl {c : Int} {S' S : xS} (h : xtl 7 S' S) : xtl 7 (flS c S') (flS c S) := by
  unfold flS
  rw [h 3 0 (by omega) (by omega)]
  exact h.upx.upx
theorem xtl.nx7 {n : Nat} {S' S : xS} (h : xtl 7 S' S) : xtl 7 (nx n S') (nx n S) := by
  have e3 := h 3 0 (by omega) (by omega)
  have e24 := h 24 0 (by omega) (by omega)
  intro x y h1 h2
  funext f
  unfold nx nxS
  rw [e3, e24]
  unfold tk
  rw [h x y h1 h2]
theorem xtl.add4 {N : Nat} {o p b d : Int} {S' S : xS} (h : xtl 7 S' S) : xtl 7 (addT 4 N o p b d S') (addT 4 N o p b d S) := by
  intro x y h1 h2
  funext f
  unfold addT
  rw [h x y h1 h2, h 2 4 (by omega) (by omega)]
theorem PT_xtl {n : Nat} {S' S : xS} (h : PT n S) (hx : xtl 7 S' S) : PT n S' := by
  unfold PT at h ⊢
  rw [hx 3 0 (by omega) (by omega)]
  exact h
theorem rdN_7 {n : Nat} {lo hi : Int} {S' S : xS} (h : xtl 7 S' S) : (rdN n lo hi S').1 = (rdN n lo hi S).1 ∧ xtl 7 (rdN n lo hi S').2 (rdN n lo hi S).2 := by
  have h9 := h.nx7 (n := n)
  have e := h9 3 0 (by omega) (by omega)
  unfold rdN
  rw [e]
  by_cases c : nx n S 3 0 6 = 2
  · rw [if_pos c, if_pos c]
    by_cases c2 : lo ≤ nx n S 3 0 9 ∧ nx n S 3 0 9 ≤ hi
    · rw [if_pos c2, if_pos c2]; exact ⟨rfl, h9⟩
    · rw [if_neg c2, if_neg c2]; exact ⟨rfl, h9.fl⟩
  · rw [if_neg c, if_neg c]; exact ⟨rfl, h9.fl⟩
theorem rdPri_7 {n : Nat} {S' S : xS} (h : xtl 7 S' S) : (rdPri n S').1 = (rdPri n S).1 ∧ xtl 7 (rdPri n S').2 (rdPri n S).2 := by
  have h1 := rdN_7 (n := n) (lo := 0) (hi := 99999) h
  unfold rdPri bnd
  rw [h1.1]
  by_cases c : (rdN n 0 99999 S).1 = true
  · rw [if_pos c, if_pos c]
    refine ⟨rfl, ?_⟩
    dsimp only
    rw [h1.2 3 0 (by omega) (by omega), h1.2 2 4 (by omega) (by omega)]
    exact (h1.2.upx).nx7
  · rw [if_neg c, if_neg c]; exact ⟨rfl, h1.2⟩
theorem isW_7 {i : Nat} {S' S : xS} (h : xtl 7 S' S) : isW i S' ↔ isW i S := by
  unfold isW
  rw [h 3 0 (by omega) (by omega), h 24 0 (by omega) (by omega)]
def rdPrm (n N : Nat) (S : xS) : Bool × xS := if S 2 4 1 < 20 then bnd (rdN n 0 (S 1 4 3 - 1) S) (fun S1 => bnd (rdN n 2 120 S1) (fun S2 => if perP (S2 3 0 9) then bnd (rdN n 1 120 S2) (fun S3 => bnd (rdN n (S3 3 0 9) (S2 3 0 9) S3) (fun S4 => if accF 4 7 N (S2 3 0 9) (S3 3 0 9) (S4 3 0 9) S4 = true then (true, nx n (addT 4 N (S1 3 0 9) (S2 3 0 9) (S3 3 0 9) (S4 3 0 9) S4)) else (false, flS 4 S4))) else (false, flS 2 S2))) else (false, flS 3 S)
set_option maxHeartbeats 400000 in
theorem f_X3_readPromise {w : xW} {S : xS} {B : String → xS → Prop} {A : Int → xS → Prop} {n N k : Nat} {T : Int} (hP : PT n S) (hV : VT 4 N T S) (hN20 : N ≤ 20) (hT : T ≤ 900000) (hn : S 1 4 3 = (k : Int)) (hk : k ≤ 8) (hq : ∀ S', xtl 7 S' (rdPrm n N S).2 → A (b2i ((rdPrm n N S).1 = true)) S') : Ki w mX3_readPromise yX3_readPromise 0 0 [xp 3 0] S A B := by
  refine K.of rfl rfl rfl rfl (Nat.le_of_ble_eq_true rfl) rfl ?_
  have hN := hV.1
  refine xs_aload_0 eX3_readPromise_0 ?_
  refine g_X3_2 eX3_readPromise_1 lRX3_18 ?_
  refine g_X4_0 eX3_readPromise_4 lRX3_132 ?_
  refine gr_X5_1 eX3_readPromise_7 lRX3_135 (fun r7 => ?_)
  refine xa_bipush eX3_readPromise_10 (by decide) ?_
  refine xa_icmp_lt (tgt := 21) eX3_readPromise_12 (by decide) (by omega) (by decide) (fun c12 => ?_) (fun c12 => ?_)
  · refine xs_aload_0 eX3_readPromise_21 ?_
    refine xa_iconst eX3_readPromise_22 ?_
    refine xs_aload_0 eX3_readPromise_23 ?_
    refine g_X3_2 eX3_readPromise_24 lRX3_18 ?_
    refine gr_X4_3 eX3_readPromise_27 lRX3_113 (fun r27 => ?_)
    refine xa_iconst eX3_readPromise_30 ?_
    refine xa_isub eX3_readPromise_31 ?_
    refine xbi_V20 (mi' := mX3_readNumber) (y := yX3_readNumber) eX3_readPromise_32 (xw_5 lRX3_102 wy_X3_readNumber) rfl ⟨wd_X3_readNumber, by decide, by decide⟩ (by decide) (fun _ => rfl) rfl (Nat.le_of_ble_eq_true rfl) rfl (f_X3_readNumber hP (by decide) (by omega) (fun e1 => ?_) (fun e1 => ?_))
    · have p1 := rdN_P hP e1
      refine xa_if_ne (tgt := 40) eX3_readPromise_35 (by decide) (by decide) (fun c35 => ?_) (fun c35 => ?_)
      · refine xs_aload_0 eX3_readPromise_40 ?_
        refine gr_X3_9 eX3_readPromise_41 lRX3_106 (fun r41 => ?_)
        refine xs_istore_1 eX3_readPromise_44 rfl ?_
        refine xs_aload_0 eX3_readPromise_45 ?_
        refine xa_iconst eX3_readPromise_46 ?_
        refine xa_bipush eX3_readPromise_47 (by decide) ?_
        refine xbi_V20 (mi' := mX3_readNumber) (y := yX3_readNumber) eX3_readPromise_49 (xw_5 lRX3_102 wy_X3_readNumber) rfl ⟨wd_X3_readNumber, by decide, by decide⟩ (by decide) (fun _ => rfl) rfl (Nat.le_of_ble_eq_true rfl) rfl (f_X3_readNumber p1.1 (by decide) (by decide) (fun e2 => ?_) (fun e2 => ?_))
        · have p2 := rdN_P p1.1 e2
          refine xa_if_ne (tgt := 57) eX3_readPromise_52 (by decide) (by decide) (fun c52 => ?_) (fun c52 => ?_)
          · refine xs_aload_0 eX3_readPromise_57 ?_
            refine gr_X3_9 eX3_readPromise_58 lRX3_106 (fun r58 => ?_)
            refine xs_istore_2 eX3_readPromise_61 rfl ?_
            refine xs_iload_2 eX3_readPromise_62 ?_
            refine xbi_N1 (mi' := mX7_isPeriod) (y := yX7_isPeriod) eX3_readPromise_63 (List.mem_of_getElem? (i := 1) rfl) (xw_3 wy_X7_isPeriod) rfl ⟨wd_X7_isPeriod, by decide, by decide⟩ (Nat.le_of_ble_eq_true rfl) rfl (k_X7_isPeriod (by have z := p2.2.1; omega) ?_)
            refine xa_ifb_ne (tgt := 75) eX3_readPromise_66 (by decide) (fun c66 => ?_) (fun c66 => ?_)
            · refine xs_aload_0 eX3_readPromise_75 ?_
              refine xa_iconst eX3_readPromise_76 ?_
              refine xa_bipush eX3_readPromise_77 (by decide) ?_
              refine xbi_V20 (mi' := mX3_readNumber) (y := yX3_readNumber) eX3_readPromise_79 (xw_5 lRX3_102 wy_X3_readNumber) rfl ⟨wd_X3_readNumber, by decide, by decide⟩ (by decide) (fun _ => rfl) rfl (Nat.le_of_ble_eq_true rfl) rfl (f_X3_readNumber p2.1 (by decide) (by decide) (fun e3 => ?_) (fun e3 => ?_))
              · have p3 := rdN_P p2.1 e3
                refine xa_if_ne (tgt := 87) eX3_readPromise_82 (by decide) (by decide) (fun c82 => ?_) (fun c82 => ?_)
                · refine xs_aload_0 eX3_readPromise_87 ?_
                  refine gr_X3_9 eX3_readPromise_88 lRX3_106 (fun r88 => ?_)
                  refine xs_istore_3 eX3_readPromise_91 rfl ?_
                  refine xs_aload_0 eX3_readPromise_92 ?_
                  refine xs_iload_3 eX3_readPromise_93 ?_
                  refine xs_iload_2 eX3_readPromise_94 ?_
                  refine xbi_V20 (mi' := mX3_readNumber) (y := yX3_readNumber) eX3_readPromise_95 (xw_5 lRX3_102 wy_X3_readNumber) rfl ⟨wd_X3_readNumber, by decide, by decide⟩ (by decide) (fun _ => rfl) rfl (Nat.le_of_ble_eq_true rfl) rfl (f_X3_readNumber p3.1 (by have z := p3.2.1; omega) (by have z := p2.2.1; omega) (fun e4 => ?_) (fun e4 => ?_))
                  · have p4 := rdN_P p3.1 e4
                    have hV4 : VT 4 N T (rdN n ((rdN n 1 120 (rdN n 2 120 (rdN n 0 (S 1 4 3 - 1) S).2).2).2 3 0 9) ((rdN n 2 120 (rdN n 0 (S 1 4 3 - 1) S).2).2 3 0 9) (rdN n 1 120 (rdN n 2 120 (rdN n 0 (S 1 4 3 - 1) S).2).2).2).2 := by unfold VT; rw [p4.2.2 2 (by decide), p3.2.2 2 (by decide), p2.2.2 2 (by decide), p1.2.2 2 (by decide), p4.2.2 10 (by decide), p3.2.2 10 (by decide), p2.2.2 10 (by decide), p1.2.2 10 (by decide)]; exact hV
                    refine xa_if_ne (tgt := 103) eX3_readPromise_98 (by decide) (by decide) (fun c98 => ?_) (fun c98 => ?_)
                    · refine xs_aload_0 eX3_readPromise_103 ?_
                      refine g_X3_3 eX3_readPromise_104 lRX3_25 ?_
                      refine xs_aload_0 eX3_readPromise_107 ?_
                      refine g_X3_2 eX3_readPromise_108 lRX3_18 ?_
                      refine g_X4_0 eX3_readPromise_111 lRX3_132 ?_
                      refine xs_iload_2 eX3_readPromise_114 ?_
                      refine xs_iload_3 eX3_readPromise_115 ?_
                      refine xs_aload_0 eX3_readPromise_116 ?_
                      refine gr_X3_9 eX3_readPromise_117 lRX3_106 (fun r117 => ?_)
                      refine xbi_V40 (mi' := mX5_accepts) (y := yX5_accepts) eX3_readPromise_120 (xw_5 lRX3_141 wy_X5_accepts) rfl ⟨wd_X5_accepts, by decide, by decide⟩ (by decide) (fun _ => rfl) rfl (Nat.le_of_ble_eq_true rfl) rfl (f_X5_accepts (t := 4) (u := 7) (by decide) hV4 (by omega) (by have z := p2.2.1; omega) (by have z := p3.2.1; omega) (by have z2 := p2.2.1; have z3 := p3.2.1; have z4 := p4.2.1; omega) (by omega) (fun S5 hx5 => ?_))
                      have e30 := hx5 3 0 (by omega) (by omega)
                      refine xa_ifb_ne (tgt := 132) eX3_readPromise_123 (by decide) (fun c123 => ?_) (fun c123 => ?_)
                      · refine xs_aload_0 eX3_readPromise_132 ?_
                        refine g_X3_2 eX3_readPromise_133 lRX3_18 ?_
                        refine g_X4_0 eX3_readPromise_136 lRX3_132 ?_
                        refine xs_iload_1 eX3_readPromise_139 ?_
                        refine xs_iload_2 eX3_readPromise_140 ?_
                        refine xs_iload_3 eX3_readPromise_141 ?_
                        refine xs_aload_0 eX3_readPromise_142 ?_
                        refine gr_X3_9 eX3_readPromise_143 lRX3_106 (fun r143 => ?_)
                        refine xbv_V40 (mi' := mX5_add) (y := yX5_add) eX3_readPromise_146 (xw_5 lRX3_145 wy_X5_add) rfl ⟨wd_X5_add, by decide, by decide⟩ (by decide) (fun _ => rfl) rfl (Nat.le_of_ble_eq_true rfl) rfl (f_X5_add (hV4.xtl hx5 (by decide)) (by omega) (by omega) (by have z := p1.2.1; omega) (by have z := p2.2.1; omega) (by have z := p3.2.1; omega) (by rw [e30]; have z2 := p2.2.1; have z3 := p3.2.1; have z4 := p4.2.1; omega) ?_)
                        rw [e30]
                        have hP6 : PT n (addT 4 N ((rdN n 0 (S 1 4 3 - 1) S).2 3 0 9) ((rdN n 2 120 (rdN n 0 (S 1 4 3 - 1) S).2).2 3 0 9) ((rdN n 1 120 (rdN n 2 120 (rdN n 0 (S 1 4 3 - 1) S).2).2).2 3 0 9) ((rdN n ((rdN n 1 120 (rdN n 2 120 (rdN n 0 (S 1 4 3 - 1) S).2).2).2 3 0 9) ((rdN n 2 120 (rdN n 0 (S 1 4 3 - 1) S).2).2 3 0 9) (rdN n 1 120 (rdN n 2 120 (rdN n 0 (S 1 4 3 - 1) S).2).2).2).2 3 0 9) S5) := by have z := PT_xtl p4.1 hx5; unfold PT at z ⊢; rw [show addT 4 N ((rdN n 0 (S 1 4 3 - 1) S).2 3 0 9) ((rdN n 2 120 (rdN n 0 (S 1 4 3 - 1) S).2).2 3 0 9) ((rdN n 1 120 (rdN n 2 120 (rdN n 0 (S 1 4 3 - 1) S).2).2).2 3 0 9) ((rdN n ((rdN n 1 120 (rdN n 2 120 (rdN n 0 (S 1 4 3 - 1) S).2).2).2 3 0 9) ((rdN n 2 120 (rdN n 0 (S 1 4 3 - 1) S).2).2 3 0 9) (rdN n 1 120 (rdN n 2 120 (rdN n 0 (S 1 4 3 - 1) S).2).2).2).2 3 0 9) S5 3 = S5 3 by funext y g; unfold addT; rw [if_neg (by omega), if_neg (by omega)]]; exact z
                        refine xs_aload_0 eX3_readPromise_149 ?_
                        refine xbv_V00 (mi' := mX3_nextToken) (y := yX3_nextToken) eX3_readPromise_150 (xw_5 lRX3_54 wy_X3_nextToken) rfl ⟨wd_X3_nextToken, by decide, by decide⟩ (by decide) (fun _ => rfl) rfl (Nat.le_of_ble_eq_true rfl) rfl (f_X3_nextToken hP6 ?_)
                        refine xa_iconst eX3_readPromise_153 ?_
                        exact xa_zret eX3_readPromise_154 rfl (by decide) ⟨_, rfl, by have h9 := hq; simp only [rdPrm, if_pos (show S 2 4 1 < 20 by omega), e1, e2, if_pos c66, e3, e4, if_pos c123, bnd, if_true, if_false, Bool.false_eq_true, reduceIte] at h9; exact h9 _ (hx5.add4.nx7)⟩
                      · refine xs_aload_0 eX3_readPromise_126 ?_
                        refine xa_iconst eX3_readPromise_127 ?_
                        refine xbi_V10 (mi' := mX3_fail) (y := yX3_fail) eX3_readPromise_128 (xw_5 lRX3_98 wy_X3_fail) rfl ⟨wd_X3_fail, by decide, by decide⟩ (by decide) (fun _ => rfl) rfl (Nat.le_of_ble_eq_true rfl) rfl (f_X3_fail (by decide) ?_)
                        exact xa_zret eX3_readPromise_131 rfl (by decide) ⟨_, rfl, by have h9 := hq; simp only [rdPrm, if_pos (show S 2 4 1 < 20 by omega), e1, e2, if_pos c66, e3, e4, if_neg c123, bnd, if_true, if_false, Bool.false_eq_true, reduceIte] at h9; exact h9 _ hx5.fl⟩
                    · exact absurd c98 (by decide)
                  · refine xa_if_ne (tgt := 103) eX3_readPromise_98 (by decide) (by decide) (fun c98 => ?_) (fun c98 => ?_)
                    · exact absurd rfl c98
                    · refine xa_iconst eX3_readPromise_101 ?_
                      exact xa_zret eX3_readPromise_102 rfl (by decide) ⟨_, rfl, by have h9 := hq; simp only [rdPrm, if_pos (show S 2 4 1 < 20 by omega), e1, e2, if_pos c66, e3, e4, bnd, if_true, if_false, Bool.false_eq_true, reduceIte] at h9; exact h9 _ xtl.rf⟩
                · exact absurd c82 (by decide)
              · refine xa_if_ne (tgt := 87) eX3_readPromise_82 (by decide) (by decide) (fun c82 => ?_) (fun c82 => ?_)
                · exact absurd rfl c82
                · refine xa_iconst eX3_readPromise_85 ?_
                  exact xa_zret eX3_readPromise_86 rfl (by decide) ⟨_, rfl, by have h9 := hq; simp only [rdPrm, if_pos (show S 2 4 1 < 20 by omega), e1, e2, if_pos c66, e3, bnd, if_true, if_false, Bool.false_eq_true, reduceIte] at h9; exact h9 _ xtl.rf⟩
            · refine xs_aload_0 eX3_readPromise_69 ?_
              refine xa_iconst eX3_readPromise_70 ?_
              refine xbi_V10 (mi' := mX3_fail) (y := yX3_fail) eX3_readPromise_71 (xw_5 lRX3_98 wy_X3_fail) rfl ⟨wd_X3_fail, by decide, by decide⟩ (by decide) (fun _ => rfl) rfl (Nat.le_of_ble_eq_true rfl) rfl (f_X3_fail (by decide) ?_)
              exact xa_zret eX3_readPromise_74 rfl (by decide) ⟨_, rfl, by have h9 := hq; simp only [rdPrm, if_pos (show S 2 4 1 < 20 by omega), e1, e2, if_neg c66, bnd, if_true, if_false, Bool.false_eq_true, reduceIte] at h9; exact h9 _ xtl.rf⟩
          · exact absurd c52 (by decide)
        · refine xa_if_ne (tgt := 57) eX3_readPromise_52 (by decide) (by decide) (fun c52 => ?_) (fun c52 => ?_)
          · exact absurd rfl c52
          · refine xa_iconst eX3_readPromise_55 ?_
            exact xa_zret eX3_readPromise_56 rfl (by decide) ⟨_, rfl, by have h9 := hq; simp only [rdPrm, if_pos (show S 2 4 1 < 20 by omega), e1, e2, bnd, if_true, if_false, Bool.false_eq_true, reduceIte] at h9; exact h9 _ xtl.rf⟩
      · exact absurd c35 (by decide)
    · refine xa_if_ne (tgt := 40) eX3_readPromise_35 (by decide) (by decide) (fun c35 => ?_) (fun c35 => ?_)
      · exact absurd rfl c35
      · refine xa_iconst eX3_readPromise_38 ?_
        exact xa_zret eX3_readPromise_39 rfl (by decide) ⟨_, rfl, by have h9 := hq; simp only [rdPrm, if_pos (show S 2 4 1 < 20 by omega), e1, bnd, if_true, if_false, Bool.false_eq_true, reduceIte] at h9; exact h9 _ xtl.rf⟩
  · refine xs_aload_0 eX3_readPromise_15 ?_
    refine xa_iconst eX3_readPromise_16 ?_
    refine xbi_V10 (mi' := mX3_fail) (y := yX3_fail) eX3_readPromise_17 (xw_5 lRX3_98 wy_X3_fail) rfl ⟨wd_X3_fail, by decide, by decide⟩ (by decide) (fun _ => rfl) rfl (Nat.le_of_ble_eq_true rfl) rfl (f_X3_fail (by decide) ?_)
    exact xa_zret eX3_readPromise_20 rfl (by decide) ⟨_, rfl, by have h9 := hq; simp only [rdPrm, if_neg (show ¬ S 2 4 1 < 20 by omega), bnd, if_true, if_false, Bool.false_eq_true, reduceIte] at h9; exact h9 _ xtl.rf⟩
