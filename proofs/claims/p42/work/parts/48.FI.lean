/-! the best bid -/
def bbS (q m n N : Nat) (C : xS) : Nat → xS
  | 0 => C
  | i + 1 => itr (tckS 1 n N) m (up (cpyS 0 1 n N (bbS q m n N C i)) 4 (8 * 1 + q) 2 (i : Int))
def bbF (q m n N : Nat) (C : xS) : Nat → Int × Int × Int
  | 0 => (-1, 0, 0)
  | i + 1 => if (bbF q m n N C i).1 = -1 ∨ bbS q m n N C (i + 1) 4 (8 * 1 + q) 1 < (bbF q m n N C i).2.1 ∨ (bbS q m n N C (i + 1) 4 (8 * 1 + q) 1 = (bbF q m n N C i).2.1 ∧ (bbF q m n N C i).2.2 < bbS q m n N C (i + 1) 4 (8 * 1 + q) 0) then ((i : Int), bbS q m n N C (i + 1) 4 (8 * 1 + q) 1, bbS q m n N C (i + 1) 4 (8 * 1 + q) 0) else bbF q m n N C i
def o_bestBid (q m : Int) (n N : Nat) (C : xS) : xO := if 0 ≤ q ∧ q < (n : Int) then (if 1 ≤ m ∧ m ≤ 120 then (0, (bbF q.toNat m.toNat n N C 100).1, n, N, C) else (2, 0, n, N, C)) else (1, 0, n, N, C)
theorem bbV {q m n N : Nat} {T : Int} {C D : xS} (h : VS 0 n N T C) (hq : q < n) (hx : xts 1 D C) {i : Nat} (hi : i < 100) : VS 1 n N T (up (cpyS 0 1 n N D) 4 (8 * 1 + q) 2 (i : Int)) := by
  have h1 := (h.fr hx (by decide)).cpy (s := 1) (by decide)
  refine h1.pus hq ?_
  have h9 := h1.p hq
  unfold PQ at h9 ⊢
  simp (decide := true) only [if_true, if_false]
  omega
theorem bbX {q m n N : Nat} {T : Int} {C : xS} (h : VS 0 n N T C) (hq : q < n) : ∀ i : Nat, i ≤ 100 → xts 1 (bbS q m n N C i) C
  | 0, _ => xts.rf
  | i + 1, hi => by
    have h9 := bbX h hq (m := m) i (by omega)
    have hn := h.2.2.1
    have hN := h.2.1
    exact (itr_fr (bbV (m := m) h hq h9 (show i < 100 by omega)) m).tr ((xts.up4 (by omega) (cpyS_fr hn (by omega))).tr h9)
theorem bbP {q m n N : Nat} {T : Int} {C : xS} (h : VS 0 n N T C) (hq : q < n) {i : Nat} (hi : i < 100) : PQ (T + 3 * (m : Int)) (bbS q m n N C (i + 1) 4 (8 * 1 + q)) := ((bbV (m := m) h hq (bbX h hq (m := m) i (by omega)) hi).itr m).p hq
theorem bbF_r {q m n N : Nat} {T : Int} {C : xS} (h : VS 0 n N T C) (hq : q < n) : ∀ i : Nat, i ≤ 100 → (-1 ≤ (bbF q m n N C i).1 ∧ (bbF q m n N C i).1 ≤ 100) ∧ (0 ≤ (bbF q m n N C i).2.1 ∧ (bbF q m n N C i).2.1 ≤ 9999) ∧ (0 ≤ (bbF q m n N C i).2.2 ∧ (bbF q m n N C i).2.2 ≤ 1000000)
  | 0, _ => by unfold bbF; decide
  | i + 1, hi => by
    have h9 := bbF_r h hq (m := m) i (by omega)
    have h8 := bbP h hq (m := m) (show i < 100 by omega)
    unfold PQ at h8
    rw [bbF]
    split
    · dsimp only; omega
    · exact h9
set_option maxHeartbeats 400000 in
theorem F_bestBid {w : xW} {S : xS} {B : String → xS → Prop} {A : Int → xS → Prop} {q m : Int} {n N : Nat} {T : Int} (hV : VS 0 n N T S) (hT : T ≤ 800000) (yq : xr q) (ym : xr m)  (hA : ∀ S', (o_bestBid q m n N S).1 = 0 → scr S' (o_bestBid q m n N S).2.2.2.2 → A (o_bestBid q m n N S).2.1 S') (hB1 : ∀ S', (o_bestBid q m n N S).1 = 1 → scr S' S → B "java/lang/IndexOutOfBoundsException" S') (hB2 : ∀ S', (o_bestBid q m n N S).1 = 2 → scr S' S → B "java/lang/IllegalArgumentException" S') : Ki w mX7_bestBid yX7_bestBid 1 6 [xp 0 0, xi q, xi m] S A B := by
  refine K.of rfl rfl rfl rfl (Nat.le_of_ble_eq_true rfl) rfl ?_
  obtain ⟨hVT, hN20, h8, hg, hp, ho, hs⟩ := id hV
  have hn := hg.1
  have hN := hVT.1
  have ht := hVT.2.2.1
  refine xs_aload_0 eX7_bestBid_0 ?_
  refine g_X7_0 eX7_bestBid_1 lRX7_10 ?_
  refine xs_iload_1 eX7_bestBid_4 ?_
  by_cases c5 : 0 ≤ q ∧ q < (n : Int)
  · refine xbo_V10 (mi' := mX4_knownProcess) (y := yX4_knownProcess) eX7_bestBid_5 (xw_5 lRX7_60 wy_X4_knownProcess) rfl ⟨wd_X4_knownProcess, by decide, by decide⟩ (by decide) (fun _ => rfl) rfl (Nat.le_of_ble_eq_true rfl) rfl (kI_X4_knownProcess hn h8 c5 ?_)
    refine xa_pop eX7_bestBid_8 rfl ?_
    refine xs_iload_2 eX7_bestBid_9 ?_
    refine xa_iconst eX7_bestBid_10 ?_
    refine xa_bipush eX7_bestBid_11 (by decide) ?_
    by_cases c13 : 1 ≤ m ∧ m ≤ 120
    · refine xbv_S30 (mi' := mX7_checkRange) (y := yX7_checkRange) eX7_bestBid_13 (xw_4 lRX7_45 wy_X7_checkRange) rfl rfl ⟨wd_X7_checkRange, by decide, by decide⟩ (Nat.le_of_ble_eq_true rfl) rfl (kk_X7_checkRange ym (by decide) (by decide) c13 ?_)
      obtain ⟨q9, rfl⟩ : ∃ q9 : Nat, q = (q9 : Int) := ⟨q.toNat, by omega⟩
      have hqn : q9 < n := by omega
      obtain ⟨m9, rfl⟩ : ∃ m9 : Nat, m = (m9 : Int) := ⟨m.toNat, by omega⟩
      have lp : ∀ i : Nat, i ≤ 100 → ∀ a7 a8 : xV, X w mX7_bestBid (xTG w (fun v S' => ∃ a, v = some (xi a) ∧ A a S') B) 1 6 27 [xp 0 0, xi (q9 : Int), xi (m9 : Int), xi (bbF q9 m9 n N S i).1, xi (bbF q9 m9 n N S i).2.1, xi (bbF q9 m9 n N S i).2.2, xi (i : Int), a7, a8] [] (bbS q9 m9 n N S i) := by
        refine nloop 100 (fun i hi ih a7 a8 => ?_)
        have hx := bbX (m := m9) hV hqn i (by omega)
        have hF := bbF_r (m := m9) hV hqn i (by omega)
        refine xs_iload_6 eX7_bestBid_27 ?_
        refine xa_bipush eX7_bestBid_29 (by decide) ?_
        refine xa_icmp_gt (tgt := 140) eX7_bestBid_31 (by decide) (by omega) (by decide) (fun c31 => ?_) (fun c31 => ?_)
        · refine xs_iload_3 eX7_bestBid_140 ?_
          exact xa_iret eX7_bestBid_141 rfl ⟨_, rfl, by have h9 := hA; unfold o_bestBid at h9; rw [if_pos c5, if_pos c13, Int.toNat_natCast, Int.toNat_natCast, ← show i = 100 by omega] at h9; exact h9 _ rfl (hx.scr (Or.inl rfl))⟩
        · have hi9 : i < 100 := by omega
          have hV0 := hV.fr hx (by decide)
          have hV1 := bbV (m := m9) hV hqn hx hi9
          have hP := bbP (m := m9) hV hqn hi9
          unfold PQ at hP
          refine xs_aload_0 eX7_bestBid_34 ?_
          refine g_X7_1 eX7_bestBid_35 lRX7_16 ?_
          refine xs_aload_0 eX7_bestBid_38 ?_
          refine g_X7_0 eX7_bestBid_39 lRX7_10 ?_
          refine xbv_V10 (mi' := mX4_copyFrom) (y := yX4_copyFrom) eX7_bestBid_42 (xw_5 lRX7_226 wy_X4_copyFrom) rfl ⟨wd_X4_copyFrom, by decide, by decide⟩ (by decide) (fun _ => rfl) rfl (Nat.le_of_ble_eq_true rfl) rfl (f_X4_copyFrom (u := 0) (s := 1) (by decide) hV0.g.1 h8 hV0.1 (by omega) ?_)
          refine xs_aload_0 eX7_bestBid_45 ?_
          refine g_X7_1 eX7_bestBid_46 lRX7_16 ?_
          refine xs_iload_1 eX7_bestBid_49 ?_
          refine xbo_V10 (mi' := mX4_knownProcess) (y := yX4_knownProcess) eX7_bestBid_50 (xw_5 lRX7_60 wy_X4_knownProcess) rfl ⟨wd_X4_knownProcess, by decide, by decide⟩ (by decide) (fun _ => rfl) rfl (Nat.le_of_ble_eq_true rfl) rfl (kI_X4_knownProcess (s := 1) (n := n) (((hV0.cpy (s := 1) (by decide))).g.1) h8 (by omega) ?_)
          rw [Int.toNat_natCast]
          refine xs_astore_7 eX7_bestBid_53 rfl ?_
          refine xs_aload_7 eX7_bestBid_55 ?_
          refine xs_iload_6 eX7_bestBid_57 ?_
          refine p_X0_2 eX7_bestBid_59 lRX7_64 (by omega) ?_
          refine xs_aload_0 eX7_bestBid_62 ?_
          refine g_X7_1 eX7_bestBid_63 lRX7_16 ?_
          refine xs_iload_2 eX7_bestBid_66 ?_
          refine xbv_V10 (mi' := mX4_pass) (y := yX4_pass) eX7_bestBid_67 (xw_5 lRX7_223 wy_X4_pass) rfl ⟨wd_X4_pass, by decide, by decide⟩ (by decide) (fun _ => rfl) rfl (Nat.le_of_ble_eq_true rfl) rfl (f_X4_pass (s := 1) hV1 (by omega) (by omega) ?_)
          rw [show itr (tckS 1 n N) m9 (up (cpyS 0 1 n N (bbS q9 m9 n N S i)) 4 (8 * 1 + q9) 2 (i : Int)) = bbS q9 m9 n N S (i + 1) from rfl]
          refine xs_iload_3 eX7_bestBid_70 ?_
          refine xa_iconst eX7_bestBid_71 ?_
          refine xa_icmp_eq (tgt := 85) eX7_bestBid_72 (by decide) (by omega) (by decide) (fun c72 => ?_) (fun c72 => ?_)
          · refine xa_iconst eX7_bestBid_85 ?_
            refine xa_goto (tgt := 90) eX7_bestBid_86 (by decide) ?_
            refine xs_istore_8 eX7_bestBid_90 rfl ?_
            refine xs_iload_8 eX7_bestBid_92 ?_
            refine xa_if_ne (tgt := 117) eX7_bestBid_94 (by decide) (by decide) (fun c94 => ?_) (fun c94 => ?_)
            · refine xs_iload_6 eX7_bestBid_117 ?_
              refine xs_istore_3 eX7_bestBid_119 rfl ?_
              refine xs_aload_7 eX7_bestBid_120 ?_
              refine gr_X0_1 eX7_bestBid_122 lRX7_79 (fun r122 => ?_)
              refine xs_istore_4 eX7_bestBid_125 rfl ?_
              refine xs_aload_7 eX7_bestBid_127 ?_
              refine gr_X0_0 eX7_bestBid_129 lRX7_85 (fun r129 => ?_)
              refine xs_istore_5 eX7_bestBid_132 rfl ?_
              refine xs_iinc_6 eX7_bestBid_134 rfl ?_
              refine xa_goto (tgt := 27) eX7_bestBid_137 (by decide) ?_
              first
                | (have e : bbF q9 m9 n N S (i + 1) = if (bbF q9 m9 n N S i).1 = -1 ∨ bbS q9 m9 n N S (i + 1) 4 (8 * 1 + q9) 1 < (bbF q9 m9 n N S i).2.1 ∨ (bbS q9 m9 n N S (i + 1) 4 (8 * 1 + q9) 1 = (bbF q9 m9 n N S i).2.1 ∧ (bbF q9 m9 n N S i).2.2 < bbS q9 m9 n N S (i + 1) 4 (8 * 1 + q9) 0) then ((i : Int), bbS q9 m9 n N S (i + 1) 4 (8 * 1 + q9) 1, bbS q9 m9 n N S (i + 1) 4 (8 * 1 + q9) 0) else bbF q9 m9 n N S i := rfl; rw [if_pos (by omega)] at e; have h9 := ih (i + 1) (by omega) (by omega) (xp 4 (8 * 1 + q9)) (xi 1); rw [e] at h9; exact h9)
                | (have e : bbF q9 m9 n N S (i + 1) = if (bbF q9 m9 n N S i).1 = -1 ∨ bbS q9 m9 n N S (i + 1) 4 (8 * 1 + q9) 1 < (bbF q9 m9 n N S i).2.1 ∨ (bbS q9 m9 n N S (i + 1) 4 (8 * 1 + q9) 1 = (bbF q9 m9 n N S i).2.1 ∧ (bbF q9 m9 n N S i).2.2 < bbS q9 m9 n N S (i + 1) 4 (8 * 1 + q9) 0) then ((i : Int), bbS q9 m9 n N S (i + 1) 4 (8 * 1 + q9) 1, bbS q9 m9 n N S (i + 1) 4 (8 * 1 + q9) 0) else bbF q9 m9 n N S i := rfl; rw [if_neg (by omega)] at e; have h9 := ih (i + 1) (by omega) (by omega) (xp 4 (8 * 1 + q9)) (xi 1); rw [e] at h9; exact h9)
            · exact absurd c94 (by decide)
          · refine xs_aload_7 eX7_bestBid_75 ?_
            refine gr_X0_1 eX7_bestBid_77 lRX7_79 (fun r77 => ?_)
            refine xs_iload_4 eX7_bestBid_80 ?_
            refine xa_icmp_ge (tgt := 89) eX7_bestBid_82 (by decide) (by omega) (by omega) (fun c82 => ?_) (fun c82 => ?_)
            · refine xa_iconst eX7_bestBid_89 ?_
              refine xs_istore_8 eX7_bestBid_90 rfl ?_
              refine xs_iload_8 eX7_bestBid_92 ?_
              refine xa_if_ne (tgt := 117) eX7_bestBid_94 (by decide) (by decide) (fun c94 => ?_) (fun c94 => ?_)
              · exact absurd rfl c94
              · refine xs_aload_7 eX7_bestBid_97 ?_
                refine gr_X0_1 eX7_bestBid_99 lRX7_79 (fun r99 => ?_)
                refine xs_iload_4 eX7_bestBid_102 ?_
                refine xa_icmp_ne (tgt := 134) eX7_bestBid_104 (by decide) (by omega) (by omega) (fun c104 => ?_) (fun c104 => ?_)
                · refine xs_iinc_6 eX7_bestBid_134 rfl ?_
                  refine xa_goto (tgt := 27) eX7_bestBid_137 (by decide) ?_
                  first
                    | (have e : bbF q9 m9 n N S (i + 1) = if (bbF q9 m9 n N S i).1 = -1 ∨ bbS q9 m9 n N S (i + 1) 4 (8 * 1 + q9) 1 < (bbF q9 m9 n N S i).2.1 ∨ (bbS q9 m9 n N S (i + 1) 4 (8 * 1 + q9) 1 = (bbF q9 m9 n N S i).2.1 ∧ (bbF q9 m9 n N S i).2.2 < bbS q9 m9 n N S (i + 1) 4 (8 * 1 + q9) 0) then ((i : Int), bbS q9 m9 n N S (i + 1) 4 (8 * 1 + q9) 1, bbS q9 m9 n N S (i + 1) 4 (8 * 1 + q9) 0) else bbF q9 m9 n N S i := rfl; rw [if_pos (by omega)] at e; have h9 := ih (i + 1) (by omega) (by omega) (xp 4 (8 * 1 + q9)) (xi 0); rw [e] at h9; exact h9)
                    | (have e : bbF q9 m9 n N S (i + 1) = if (bbF q9 m9 n N S i).1 = -1 ∨ bbS q9 m9 n N S (i + 1) 4 (8 * 1 + q9) 1 < (bbF q9 m9 n N S i).2.1 ∨ (bbS q9 m9 n N S (i + 1) 4 (8 * 1 + q9) 1 = (bbF q9 m9 n N S i).2.1 ∧ (bbF q9 m9 n N S i).2.2 < bbS q9 m9 n N S (i + 1) 4 (8 * 1 + q9) 0) then ((i : Int), bbS q9 m9 n N S (i + 1) 4 (8 * 1 + q9) 1, bbS q9 m9 n N S (i + 1) 4 (8 * 1 + q9) 0) else bbF q9 m9 n N S i := rfl; rw [if_neg (by omega)] at e; have h9 := ih (i + 1) (by omega) (by omega) (xp 4 (8 * 1 + q9)) (xi 0); rw [e] at h9; exact h9)
                · refine xs_aload_7 eX7_bestBid_107 ?_
                  refine gr_X0_0 eX7_bestBid_109 lRX7_85 (fun r109 => ?_)
                  refine xs_iload_5 eX7_bestBid_112 ?_
                  refine xa_icmp_le (tgt := 134) eX7_bestBid_114 (by decide) (by omega) (by omega) (fun c114 => ?_) (fun c114 => ?_)
                  · refine xs_iinc_6 eX7_bestBid_134 rfl ?_
                    refine xa_goto (tgt := 27) eX7_bestBid_137 (by decide) ?_
                    first
                      | (have e : bbF q9 m9 n N S (i + 1) = if (bbF q9 m9 n N S i).1 = -1 ∨ bbS q9 m9 n N S (i + 1) 4 (8 * 1 + q9) 1 < (bbF q9 m9 n N S i).2.1 ∨ (bbS q9 m9 n N S (i + 1) 4 (8 * 1 + q9) 1 = (bbF q9 m9 n N S i).2.1 ∧ (bbF q9 m9 n N S i).2.2 < bbS q9 m9 n N S (i + 1) 4 (8 * 1 + q9) 0) then ((i : Int), bbS q9 m9 n N S (i + 1) 4 (8 * 1 + q9) 1, bbS q9 m9 n N S (i + 1) 4 (8 * 1 + q9) 0) else bbF q9 m9 n N S i := rfl; rw [if_pos (by omega)] at e; have h9 := ih (i + 1) (by omega) (by omega) (xp 4 (8 * 1 + q9)) (xi 0); rw [e] at h9; exact h9)
                      | (have e : bbF q9 m9 n N S (i + 1) = if (bbF q9 m9 n N S i).1 = -1 ∨ bbS q9 m9 n N S (i + 1) 4 (8 * 1 + q9) 1 < (bbF q9 m9 n N S i).2.1 ∨ (bbS q9 m9 n N S (i + 1) 4 (8 * 1 + q9) 1 = (bbF q9 m9 n N S i).2.1 ∧ (bbF q9 m9 n N S i).2.2 < bbS q9 m9 n N S (i + 1) 4 (8 * 1 + q9) 0) then ((i : Int), bbS q9 m9 n N S (i + 1) 4 (8 * 1 + q9) 1, bbS q9 m9 n N S (i + 1) 4 (8 * 1 + q9) 0) else bbF q9 m9 n N S i := rfl; rw [if_neg (by omega)] at e; have h9 := ih (i + 1) (by omega) (by omega) (xp 4 (8 * 1 + q9)) (xi 0); rw [e] at h9; exact h9)
                  · refine xs_iload_6 eX7_bestBid_117 ?_
                    refine xs_istore_3 eX7_bestBid_119 rfl ?_
                    refine xs_aload_7 eX7_bestBid_120 ?_
                    refine gr_X0_1 eX7_bestBid_122 lRX7_79 (fun r122 => ?_)
                    refine xs_istore_4 eX7_bestBid_125 rfl ?_
                    refine xs_aload_7 eX7_bestBid_127 ?_
                    refine gr_X0_0 eX7_bestBid_129 lRX7_85 (fun r129 => ?_)
                    refine xs_istore_5 eX7_bestBid_132 rfl ?_
                    refine xs_iinc_6 eX7_bestBid_134 rfl ?_
                    refine xa_goto (tgt := 27) eX7_bestBid_137 (by decide) ?_
                    first
                      | (have e : bbF q9 m9 n N S (i + 1) = if (bbF q9 m9 n N S i).1 = -1 ∨ bbS q9 m9 n N S (i + 1) 4 (8 * 1 + q9) 1 < (bbF q9 m9 n N S i).2.1 ∨ (bbS q9 m9 n N S (i + 1) 4 (8 * 1 + q9) 1 = (bbF q9 m9 n N S i).2.1 ∧ (bbF q9 m9 n N S i).2.2 < bbS q9 m9 n N S (i + 1) 4 (8 * 1 + q9) 0) then ((i : Int), bbS q9 m9 n N S (i + 1) 4 (8 * 1 + q9) 1, bbS q9 m9 n N S (i + 1) 4 (8 * 1 + q9) 0) else bbF q9 m9 n N S i := rfl; rw [if_pos (by omega)] at e; have h9 := ih (i + 1) (by omega) (by omega) (xp 4 (8 * 1 + q9)) (xi 0); rw [e] at h9; exact h9)
                      | (have e : bbF q9 m9 n N S (i + 1) = if (bbF q9 m9 n N S i).1 = -1 ∨ bbS q9 m9 n N S (i + 1) 4 (8 * 1 + q9) 1 < (bbF q9 m9 n N S i).2.1 ∨ (bbS q9 m9 n N S (i + 1) 4 (8 * 1 + q9) 1 = (bbF q9 m9 n N S i).2.1 ∧ (bbF q9 m9 n N S i).2.2 < bbS q9 m9 n N S (i + 1) 4 (8 * 1 + q9) 0) then ((i : Int), bbS q9 m9 n N S (i + 1) 4 (8 * 1 + q9) 1, bbS q9 m9 n N S (i + 1) 4 (8 * 1 + q9) 0) else bbF q9 m9 n N S i := rfl; rw [if_neg (by omega)] at e; have h9 := ih (i + 1) (by omega) (by omega) (xp 4 (8 * 1 + q9)) (xi 0); rw [e] at h9; exact h9)
            · refine xa_iconst eX7_bestBid_85 ?_
              refine xa_goto (tgt := 90) eX7_bestBid_86 (by decide) ?_
              refine xs_istore_8 eX7_bestBid_90 rfl ?_
              refine xs_iload_8 eX7_bestBid_92 ?_
              refine xa_if_ne (tgt := 117) eX7_bestBid_94 (by decide) (by decide) (fun c94 => ?_) (fun c94 => ?_)
              · refine xs_iload_6 eX7_bestBid_117 ?_
                refine xs_istore_3 eX7_bestBid_119 rfl ?_
                refine xs_aload_7 eX7_bestBid_120 ?_
                refine gr_X0_1 eX7_bestBid_122 lRX7_79 (fun r122 => ?_)
                refine xs_istore_4 eX7_bestBid_125 rfl ?_
                refine xs_aload_7 eX7_bestBid_127 ?_
                refine gr_X0_0 eX7_bestBid_129 lRX7_85 (fun r129 => ?_)
                refine xs_istore_5 eX7_bestBid_132 rfl ?_
                refine xs_iinc_6 eX7_bestBid_134 rfl ?_
                refine xa_goto (tgt := 27) eX7_bestBid_137 (by decide) ?_
                first
                  | (have e : bbF q9 m9 n N S (i + 1) = if (bbF q9 m9 n N S i).1 = -1 ∨ bbS q9 m9 n N S (i + 1) 4 (8 * 1 + q9) 1 < (bbF q9 m9 n N S i).2.1 ∨ (bbS q9 m9 n N S (i + 1) 4 (8 * 1 + q9) 1 = (bbF q9 m9 n N S i).2.1 ∧ (bbF q9 m9 n N S i).2.2 < bbS q9 m9 n N S (i + 1) 4 (8 * 1 + q9) 0) then ((i : Int), bbS q9 m9 n N S (i + 1) 4 (8 * 1 + q9) 1, bbS q9 m9 n N S (i + 1) 4 (8 * 1 + q9) 0) else bbF q9 m9 n N S i := rfl; rw [if_pos (by omega)] at e; have h9 := ih (i + 1) (by omega) (by omega) (xp 4 (8 * 1 + q9)) (xi 1); rw [e] at h9; exact h9)
                  | (have e : bbF q9 m9 n N S (i + 1) = if (bbF q9 m9 n N S i).1 = -1 ∨ bbS q9 m9 n N S (i + 1) 4 (8 * 1 + q9) 1 < (bbF q9 m9 n N S i).2.1 ∨ (bbS q9 m9 n N S (i + 1) 4 (8 * 1 + q9) 1 = (bbF q9 m9 n N S i).2.1 ∧ (bbF q9 m9 n N S i).2.2 < bbS q9 m9 n N S (i + 1) 4 (8 * 1 + q9) 0) then ((i : Int), bbS q9 m9 n N S (i + 1) 4 (8 * 1 + q9) 1, bbS q9 m9 n N S (i + 1) 4 (8 * 1 + q9) 0) else bbF q9 m9 n N S i := rfl; rw [if_neg (by omega)] at e; have h9 := ih (i + 1) (by omega) (by omega) (xp 4 (8 * 1 + q9)) (xi 1); rw [e] at h9; exact h9)
              · exact absurd c94 (by decide)
      refine xa_iconst eX7_bestBid_16 ?_
      refine xs_istore_3 eX7_bestBid_17 rfl ?_
      refine xa_iconst eX7_bestBid_18 ?_
      refine xs_istore_4 eX7_bestBid_19 rfl ?_
      refine xa_iconst eX7_bestBid_21 ?_
      refine xs_istore_5 eX7_bestBid_22 rfl ?_
      refine xa_iconst eX7_bestBid_24 ?_
      refine xs_istore_6 eX7_bestBid_25 rfl ?_
      exact lp 0 (by omega) xj xj
    · exact xbv_S3 (mi' := mX7_checkRange) (y := yX7_checkRange) eX7_bestBid_13 (xw_4 lRX7_45 wy_X7_checkRange) rfl rfl ⟨wd_X7_checkRange, by decide, by decide⟩ (Nat.le_of_ble_eq_true rfl) rfl ⟨by decide, by decide⟩ (kt_X7_checkRange ym (by decide) (by decide) c13 (xt_out rfl (hB2 S (by unfold o_bestBid; rw [if_pos c5, if_neg c13]) scr.rf)))
  · exact xbo_V1 (mi' := mX4_knownProcess) (y := yX4_knownProcess) eX7_bestBid_5 (xw_5 lRX7_60 wy_X4_knownProcess) rfl ⟨wd_X4_knownProcess, by decide, by decide⟩ (by decide) (fun _ => rfl) rfl (Nat.le_of_ble_eq_true rfl) rfl ⟨by decide, by decide⟩ (kt_X4_knownProcess hn h8 yq c5 (xt_out rfl (hB1 S (by unfold o_bestBid; rw [if_neg c5]) scr.rf)))
