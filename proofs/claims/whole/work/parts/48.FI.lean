/-! the best bid -/
def bbS (q m n N : Nat) (C : xS) : Nat → xS
  | 0 => C
  | i + 1 => itr (tckS 1 n N) m (up (cpyS 0 1 n N (bbS q m n N C i)) 4 (8 * 1 + q) 2 (i : Int))
def bbF (q m n N : Nat) (C : xS) : Nat → Int × Int × Int
  | 0 => (-1, 0, 0)
  | i + 1 => if (bbF q m n N C i).1 = -1 ∨ bbS q m n N C (i + 1) 4 (8 * 1 + q) 1 < (bbF q m n N C i).2.1 ∨ (bbS q m n N C (i + 1) 4 (8 * 1 + q) 1 = (bbF q m n N C i).2.1 ∧ (bbF q m n N C i).2.2 < bbS q m n N C (i + 1) 4 (8 * 1 + q) 0) then ((i : Int), bbS q m n N C (i + 1) 4 (8 * 1 + q) 1, bbS q m n N C (i + 1) 4 (8 * 1 + q) 0) else bbF q m n N C i
def o_bestBid (q m : Int) (n N : Nat) (C : xS) : xO := if 0 ≤ q ∧ q < (n : Int) then (if 1 ≤ m ∧ m ≤ 120 then (0, (bbF q.toNat m.toNat n N C 100).1, n, N, C) else (2, 0, n, N, C)) else (1, 0, n, N, C)
theorem bbV {q m n N : Nat} {T : Int} {C D : xS} (h : VS 0 n N T C) (hq : q < n) (hx : xts 1 D C) {i : Nat} (hi : i < 100) : VS 1 n N T (up (cpyS 0 1 n N D) 4 (8 * 1 + q) 2 (i : Int)) := by
  have h1 := (h.fr hx (by decide)).cpy (s := 1) (by decide)
  refine h1.pus hq ?_
  have h9 := h1.p hq
  unfold PQ at h9 ⊢
  simp (decide := true) only [if_true, if_false]
  omega
theorem bbX {q m n N : Nat} {T : Int} {C : xS} (h : VS 0 n N T C) (hq : q < n) : ∀ i : Nat, i ≤ 100 → xts 1 (bbS q m n N C i) C
  | 0, _ => xts.rf
  | i + 1, hi => by
    have h9 := bbX h hq (m := m) i (by omega)
    have hn := h.2.2.1
    have hN := h.2.1
    exact (itr_fr (bbV (m := m) h hq h9 (show i < 100 by omega)) m).tr ((xts.up4 (by omega) (cpyS_fr hn (by omega))).tr h9)
theorem bbP {q m n N : Nat} {T : Int} {C : xS} (h : VS 0 n N T C) (hq : q < n) {i : Nat} (hi : i < 100) : PQ (T + 3 * (m : Int)) (bbS q m n N C (i + 1) 4 (8 * 1 + q)) := ((bbV (m := m) h hq (bbX h hq (m := m) i (by omega)) hi).itr m).p hq
theorem bbF_r {q m n N : Nat} {T : Int} {C : xS} (h : VS 0 n N T C) (hq : q < n) : ∀ i : Nat, i ≤ 100 → (-1 ≤ (bbF q m n N C i).1 ∧ (bbF q m n N C i).1 ≤ 100) ∧ (0 ≤ (bbF q m n N C i).2.1 ∧ (bbF q m n N C i).2.1 ≤ 9999) ∧ (0 ≤ (bbF q m n N C i).2.2 ∧ (bbF q m n N C i).2.2 ≤ 1000000)
  | 0, _ => by unfold bbF; decide
  | i + 1, hi => by
    have h9 := bbF_r h hq (m := m) i (by omega)
    have h8 := bbP h hq (m := m) (show i < 100 by omega)
    unfold PQ at h8
    rw [bbF]
    split
    · dsimp only; omega
    · exact h9
set_option maxHeartbeats 400000 in
theorem F_bestBid {w : xW} {S : xS} {B : String → xS → Prop} {A : Int → xS → Prop} {q m : Int} {n N : Nat} {T : Int} (hV : VS 0 n N T S) (hT : T ≤ 800000) (yq : xr q) (ym : xr m)  (hA : ∀ S', (o_bestBid q m n N S).1 = 0 → scr S' (o_bestBid q m n N S).2.2.2.2 → A (o_bestBid q m n N S).2.1 S') (hB1 : ∀ S', (o_bestBid q m n N S).1 = 1 → scr S' S → B "java/lang/IndexOutOfBoundsException" S') (hB2 : ∀ S', (o_bestBid q m n N S).1 = 2 → scr S' S → B "java/lang/IllegalArgumentException" S') : Ki w mX7_bestBid yX7_bestBid 1 6 [xp 0 0, xi q, xi m] S A B := by
  refine K.of rfl rfl rfl rfl (Nat.le_of_ble_eq_true rfl) rfl ?_
  obtain ⟨hVT, hN20, h8, hg, hp, ho, hs⟩ := id hV
  have hn := hg.1
  have hN := hVT.1
  have ht := hVT.2.2.1
  refine xs_aload_0 eX7_bestBid_0 ?_
  refine g_X7_0 eX7_bestBid_1 lRX7_10 ?_
  refine xs_iload_1 eX7_bestBid_4 ?_
  by_cases c5 : 0 ≤ q ∧ q < (n : Int)
  · refine xbo_V10 (mi' := mX4_knownProcess) (y := yX4_knownProcess) eX7_bestBid_5 (xw_5 lRX7_60 wy_X4_knownProcess) rfl ⟨wd_X4_knownProcess, by decide, by decide⟩ (by decide) (fun _ => rfl) rfl (Nat.le_of_ble_eq_true rfl) rfl (kI_X4_knownProcess hn h8 c5 ?_)
    refine xa_pop eX7_bestBid_8 rfl ?_
    refine xs_iload_2 eX7_bestBid_9 ?_
    refine xa_iconst eX7_bestBid_10 ?_
    refine xa_bipush eX7_bestBid_11 (by decide) ?_
    by_cases c13 : 1 ≤ m ∧ m ≤ 120
    · refine xbv_S30 (mi' := mX7_checkRange) (y := yX7_checkRange) eX7_bestBid_13 (xw_4 lRX7_45 wy_X7_checkRange) rfl rfl ⟨wd_X7_checkRange, by decide, by decide⟩ (Nat.le_of_ble_eq_true rfl) rfl (kk_X7_checkRange ym (by decide) (by decide) c13 ?_)
      obtain ⟨q9, rfl⟩ : ∃ q9 : Nat, q = (q9 : Int) := ⟨q.toNat, by omega⟩
      have hqn : q9 < n := by omega
      obtain ⟨m9, rfl⟩ : ∃ m9 : Nat, m = (m9 : Int) := ⟨m.toNat, by omega⟩
      have lp : ∀ i : Nat, i ≤ 100 → ∀ a7 a8 : xV, X w mX7_bestBid (xTG w (fun v S' => ∃ a, v = some (xi a) ∧ A a S') B) 1 6 27 [xp 0 0, xi (q9 : Int), xi (m9 : Int), xi (bbF q9 m9 n N S i).1, xi (bbF q9 m9 n N S i).2.1, xi (bbF q9 m9 n N S i).2.2, xi (i : Int), a7, a8] [] (bbS q9 m9 n N S i) := by
        refine nloop 100 (fun i hi ih a7 a8 => ?_)
        have hx := bbX (m := m9) hV hqn i (by omega)
        have hF := bbF_r (m := m9) hV hqn i (by omega)
        refine xs_iload_6 eX7_bestBid_27 ?_
        refine xa_bipush eX7_bestBid_29 (by decide) ?_
        refine xa_icmp_gt (tgt := 140) eX7_bestBid_31 (by decide) (by omega) (by decide) (fun c31 => ?_) (fun c31 => ?_)
        · refine xs_iload_3 eX7_bestBid_140 ?_
          exact xa_iret eX7_bestBid_141 rfl ⟨_, rfl, by have h9 := hA; unfold o_bestBid at h9; rw [if_pos c5, if_pos c13, Int.toNat_natCast, Int.toNat_natCast, ← show i = 100 by omega] at h9; exact h9 _ rfl (hx.scr (Or.inl rfl))⟩
        · have hi9 : i < 100 := by omega
          have hV0 := hV.fr hx (by decide)
          have hV1 := bbV (m := m9) hV hqn hx hi9
          have hP := bbP (m := m9) hV hqn hi9
          unfold PQ at hP
          refine xs_aload_0 eX7_bestBid_34 ?_
          refine g_X7_1 eX7_bestBid_35 lRX7_16 ?_
          refine xs_aload_0 eX7_bestBid_38 ?_
          refine g_X7_0 eX7_bestBid_39 lRX7_10 ?_
          refine xbv_V10 (mi' := mX4_copyFrom) (y := yX4_copyFrom) eX7_bestBid_42 (xw_5 lRX7_226 wy_X4_copyFrom) rfl ⟨wd_X4_copyFrom, by decide, by decide⟩ (by decide) (fun _ => rfl) rfl (Nat.le_of_ble_eq_true rfl) rfl (f_X4_copyFrom (u := 0) (s := 1) (by decide) hV0.g.1 h8 hV0.1 (by omega) ?_)
          refine xs_aload_0 eX7_bestBid_45 ?_
          refine g_X7_1 eX7_bestBid_46 lRX7_16 ?_
          refine xs_iload_1 eX7_bestBid_49 ?_
          refine xbo_V10 (mi' := mX4_knownProcess) (y := yX4_knownProcess) eX7_bestBid_50 (xw_5 lRX7_60 wy_X4_knownProcess) rfl ⟨wd_X4_knownProcess, by decide, by decide⟩ (by decide) (fun _ => rfl) rfl (Nat.le_of_ble_eq_true rfl) rfl (kI_X4_knownProcess (s := 1) (n := n) (((hV0.cpy (s := 1) (by decide))).g.1) h8 (by omega) ?_)
          rw [Int.toNat_natCast]
          refine xs_astore_7 eX7_bestBid_53 rfl ?_
          refine xs_aload_7 eX7_bestBid_55 ?_
          refine xs_iload_6 eX7_bestBid_57 ?_
          refine p_X0_2 eX7_bestBid_59 lRX7_64 (by omega) ?_
          refine xs_aload_0 eX7_bestBid_62 ?_
          refine g_X7_1 eX7_bestBid_63 lRX7_16 ?_
          refine xs_iload_2 eX7_bestBid_66 ?_
          refine xbv_V10 (mi' := mX4_pass) (y := yX4_pass) eX7_bestBid_67 (xw_5 lRX7_223 wy_X4_pass) rfl ⟨wd_X4_pass, by decide, by decide⟩ (by decide) (fun _ => rfl) rfl (Nat.le_of_ble_eq_true rfl) rfl (f_X4_pass (s := 1) hV1 (by omega) (by omega) ?_)
          rw [show itr (tckS 1 n N) m9 (up (cpyS 0 1 n N (bbS q9 m9 n N S i)) 4 (8 * 1 + q9) 2 (i : Int)) = bbS q9 m9 n N S (i + 1) from rfl]
          refine xs_iload_3 eX7_bestBid_70 ?_
          refine xa_iconst eX7_bestBid_71 ?_
          refine xa_icmp_eq (tgt := 85) eX7_bestBid_72 (by decide) (by omega) (by decide) (fun c72 => ?_) (fun c72 => ?_)
          · refine xa_iconst eX7_bestBid_85 ?_
            refine xa_goto (tgt := 90) eX7_bestBid_86 (by decide) ?_
            refine xs_istore_8 eX7_bestBid_90 rfl ?_
            refine xs_iload_8 eX7_bestBid_92 ?_
            refine xa_if_ne (tgt := 117) eX7_bestBid_94 (by decide) (by decide) (fun c94 => ?_) (fun c94 => ?_)
            · refine xs_iload_6 eX7_bestBid_117 ?_
              refine xs_istore_3 eX7_bestBid_119 rfl ?_
              refine xs_aload_7 eX7_bestBid_120 ?_
              refine gr_X0_1 eX7_bestBid_122 lRX7_79 (fun r122 => ?_)
              refine xs_istore_4 eX7_bestBid_125 rfl ?_
              refine xs_aload_7 eX7_bestBid_127 ?_
              refine gr_X0_0 eX7_bestBid_129 lRX7_85 (fun r129 => ?_)
              refine xs_istore_5 eX7_bestBid_132 rfl ?_
              refine xs_iinc_6 eX7_bestBid_134 rfl ?_
              refine xa_goto (tgt := 27) eX7_bestBid_137 (by decide) ?_
              first
                | (have e : bbF q9 m9 n N S (i + 1) = if (bbF q9 m9 n N S i).1 = -1 ∨ bbS q9 m9 n N S (i + 1) 4 (8 * 1 + q9) 1 < (bbF q9 m9 n N S i).2.1 ∨ (bbS q9 m9 n N S (i + 1) 4 (8 * 1 + q9) 1 = (bbF q9 m9 n N S i).2.1 ∧ (bbF q9 m9 n N S i).2.2 < bbS q9 m9 n N S (i + 1) 4 (8 * 1 + q9) 0) then ((i : Int), bbS q9 m9 n N S (i + 1) 4 (8 * 1 + q9) 1, bbS q9 m9 n N S (i + 1) 4 (8 * 1 + q9) 0) else bbF q9 m9 n N S i := rfl; rw [if_pos (by omega)] at e; have h9 := ih (i + 1) (by omega) (by omega) (xp 4 (8 * 1 + q9)) (xi 1); rw [e] at h9; exact h9)
                | (have e : bbF q9 m9 n N S (i + 1) = if (bbF q9 m9 n N S i).1 = -1 ∨ bbS q9 m9 n N S (i + 1) 4 (8 * 1 + q9) 1 < (bbF q9 m9 n N S i).2.1 ∨ (bbS q9 m9 n N S (i + 1) 4 (8 * 1 + q9) 1 = (bbF q9 m9 n N S i).2.1 ∧ (bbF q9 m9 n N S i).2.2 < bbS q9 m9 n N S (i + 1) 4 (8 * 1 + q9) 0) then ((i : Int), bbS q9 m9 n N S (i + 1) 4 (8 * 1 + q9) 1, bbS q9 m9 n N S (i + 1) 4 (8 * 1 + q9) 0) else bbF q9 m9 n N S i := rfl; rw [if_neg (by omega)] at e; have h9 := ih (i + 1) (by omega) (by omega) (xp 4 (8 * 1 + q9)) (xi 1); rw [e] at h9; exact h9)
            · exact absurd c94 (by decide)
          · refine xs_aload_7 eX7_bestBid_75 ?_
            refine gr_X0_1 eX7_bestBid_77 lRX7_79 (fun r77 => ?_)
            refine xs_iload_4 eX7_bestBid_80 ?_
            refine xa_icmp_ge (tgt := 89) eX7_bestBid_82 (by decide) (by omega) (by omega) (fun c82 => ?_) (fun c82 => ?_)
            · refine xa_iconst eX7_bestBid_89 ?_
              refine xs_istore_8 eX7_bestBid_90 rfl ?_
              refine xs_iload_8 eX7_bestBid_92 ?_
              refine xa_if_ne (tgt := 117) eX7_bestBid_94 (by decide) (by decide) (fun c94 => ?_) (fun c94 => ?_)
              · exact absurd rfl c94
              · refine xs_aload_7 eX7_bestBid_97 ?_
                refine gr_X0_1 eX7_bestBid_99 lRX7_79 (fun r99 => ?_)
                refine xs_iload_4 eX7_bestBid_102 ?_
                refine xa_icmp_ne (tgt := 134) eX7_bestBid_104 (by decide) (by omega) (by omega) (fun c104 => ?_) (fun c104 => ?_)
                · refine xs_iinc_6 eX7_bestBid_134 rfl ?_
                  refine xa_goto (tgt := 27) eX7_bestBid_137 (by decide) ?_
                  first
                    | (have e : bbF q9 m9 n N S (i + 1) = if (bbF q9 m9 n N S i).1 = -1 ∨ bbS q9 m9 n N S (i + 1) 4 (8 * 1 + q9) 1 < (bbF q9 m9 n N S i).2.1 ∨ (bbS q9 m9 n N S (i + 1) 4 (8 * 1 + q9) 1 = (bbF q9 m9 n N S i).2.1 ∧ (bbF q9 m9 n N S i).2.2 < bbS q9 m9 n N S (i + 1) 4 (8 * 1 + q9) 0) then ((i : Int), bbS q9 m9 n N S (i + 1) 4 (8 * 1 + q9) 1, bbS q9 m9 n N S (i + 1) 4 (8 * 1 + q9) 0) else bbF q9 m9 n N S i := rfl; rw [if_pos (by omega)] at e; have h9 := ih (i + 1) (by omega) (by omega) (xp 4 (8 * 1 + q9)) (xi 0); rw [e] at h9; exact h9)
                    | (have e : bbF q9 m9 n N S (i + 1) = if (bbF q9 m9 n N S i).1 = -1 ∨ bbS q9 m9 n N S (i + 1) 4 (8 * 1 + q9) 1 < (bbF q9 m9 n N S i).2.1 ∨ (bbS q9 m9 n N S (i + 1) 4 (8 * 1 + q9) 1 = (bbF q9 m9 n N S i).2.1 ∧ (bbF q9 m9 n N S i).2.2 < bbS q9 m9 n N S (i + 1) 4 (8 * 1 + q9) 0) then ((i : Int), bbS q9 m9 n N S (i + 1) 4 (8 * 1 + q9) 1, bbS q9 m9 n N S (i + 1) 4 (8 * 1 + q9) 0) else bbF q9 m9 n N S i := rfl; rw [if_neg (by omega)] at e; have h9 := ih (i + 1) (by omega) (by omega) (xp 4 (8 * 1 + q9)) (xi 0); rw [e] at h9; exact h9)
                · refine xs_aload_7 eX7_bestBid_107 ?_
                  refine gr_X0_0 eX7_bestBid_109 lRX7_85 (fun r109 => ?_)
                  refine xs_iload_5 eX7_bestBid_112 ?_
                  refine xa_icmp_le (tgt := 134) eX7_bestBid_114 (by decide) (by omega) (by omega) (fun c114 => ?_) (fun c114 => ?_)
                  · refine xs_iinc_6 eX7_bestBid_134 rfl ?_
                    refine xa_goto (tgt := 27) eX7_bestBid_137 (by decide) ?_
                    first
                      | (have e : bbF q9 m9 n N S (i + 1) = if (bbF q9 m9 n N S i).1 = -1 ∨ bbS q9 m9 n N S (i + 1) 4 (8 * 1 + q9) 1 < (bbF q9 m9 n N S i).2.1 ∨ (bbS q9 m9 n N S (i + 1) 4 (8 * 1 + q9) 1 = (bbF q9 m9 n N S i).2.1 ∧ (bbF q9 m9 n N S i).2.2 < bbS q9 m9 n N S (i + 1) 4 (8 * 1 + q9) 0) then ((i : Int), bbS q9 m9 n N S (i + 1) 4 (8 * 1 + q9) 1, bbS q9 m9 n N S (i + 1) 4 (8 * 1 + q9) 0) else bbF q9 m9 n N S i := rfl; rw [if_pos (by omega)] at e; have h9 := ih (i + 1) (by omega) (by omega) (xp 4 (8 * 1 + q9)) (xi 0); rw [e] at h9; exact h9)
                      | (have e : bbF q9 m9 n N S (i + 1) = if (bbF q9 m9 n N S i).1 = -1 ∨ bbS q9 m9 n N S (i + 1) 4 (8 * 1 + q9) 1 < (bbF q9 m9 n N S i).2.1 ∨ (bbS q9 m9 n N S (i + 1) 4 (8 * 1 + q9) 1 = (bbF q9 m9 n N S i).2.1 ∧ (bbF q9 m9 n N S i).2.2 < bbS q9 m9 n N S (i + 1) 4 (8 * 1 + q9) 0) then ((i : Int), bbS q9 m9 n N S (i + 1) 4 (8 * 1 + q9) 1, bbS q9 m9 n N S (i + 1) 4 (8 * 1 + q9) 0) else bbF q9 m9 n N S i := rfl; rw [if_neg (by omega)] at e; have h9 := ih (i + 1) (by omega) (by omega) (xp 4 (8 * 1 + q9)) (xi 0); rw [e] at h9; exact h9)
                  · refine xs_iload_6 eX7_bestBid_117 ?_
                    refine xs_istore_3 eX7_bestBid_119 rfl ?_
                    refine xs_aload_7 eX7_bestBid_120 ?_
                    refine gr_X0_1 eX7_bestBid_122 lRX7_79 (fun r122 => ?_)
                    refine xs_istore_4 eX7_bestBid_125 rfl ?_
                    refine xs_aload_7 eX7_bestBid_127 ?_
                    refine gr_X0_0 eX7_bestBid_129 lRX7_85 (fun r129 => ?_)
                    refine xs_istore_5 eX7_bestBid_132 rfl ?_
                    refine xs_iinc_6 eX7_bestBid_134 rfl ?_
                    refine xa_goto (tgt := 27) eX7_bestBid_137 (by decide) ?_
                    first
                      | (have e : bbF q9 m9 n N S (i + 1) = if (bbF q9 m9 n N S i).1 = -1 ∨ bbS q9 m9 n N S (i + 1) 4 (8 * 1 + q9) 1 < (bbF q9 m9 n N S i).2.1 ∨ (bbS q9 m9 n N S (i + 1) 4 (8 * 1 + q9) 1 = (bbF q9 m9 n N S i).2.1 ∧ (bbF q9 m9 n N S i).2.2 < bbS q9 m9 n N S (i + 1) 4 (8 * 1 + q9) 0) then ((i : Int), bbS q9 m9 n N S (i + 1) 4 (8 * 1 + q9) 1, bbS q9 m9 n N S (i + 1) 4 (8 * 1 + q9) 0) else bbF q9 m9 n N S i := rfl; rw [if_pos (by omega)] at e; have h9 := ih (i + 1) (by omega) (by omega) (xp 4 (8 * 1 + q9)) (xi 0); rw [e] at h9; exact h9)
                      | (have e : bbF q9 m9 n N S (i + 1) = if (bbF q9 m9 n N S i).1 = -1 ∨ bbS q9 m9 n N S (i + 1) 4 (8 * 1 + q9) 1 < (bbF q9 m9 n N S i).2.1 ∨ (bbS q9 m9 n N S (i + 1) 4 (8 * 1 + q9) 1 = (bbF q9 m9 n N S i).2.1 ∧ (bbF q9 m9 n N S i).2.2 < bbS q9 m9 n N S (i + 1) 4 (8 * 1 + q9) 0) then ((i : Int), bbS q9 m9 n N S (i + 1) 4 (8 * 1 + q9) 1, bbS q9 m9 n N S (i + 1) 4 (8 * 1 + q9) 0) else bbF q9 m9 n N S i := rfl; rw [if_neg (by omega)] at e; have h9 := ih (i + 1) (by omega) (by omega) (xp 4 (8 * 1 + q9)) (xi 0); rw [e] at h9; exact h9)
            · refine xa_iconst eX7_bestBid_85 ?_
              refine xa_goto (tgt := 90) eX7_bestBid_86 (by decide) ?_
              refine xs_istore_8 eX7_bestBid_90 rfl ?_
              refine xs_iload_8 eX7_bestBid_92 ?_
              refine xa_if_ne (tgt := 117) eX7_bestBid_94 (by decide) (by decide) (fun c94 => ?_) (fun c94 => ?_)
              · refine xs_iload_6 eX7_bestBid_117 ?_
                refine xs_istore_3 eX7_bestBid_119 rfl ?_
                refine xs_aload_7 eX7_bestBid_120 ?_
                refine gr_X0_1 eX7_bestBid_122 lRX7_79 (fun r122 => ?_)
                refine xs_istore_4 eX7_bestBid_125 rfl ?_
                refine xs_aload_7 eX7_bestBid_127 ?_
                refine gr_X0_0 eX7_bestBid_129 lRX7_85 (fun r129 => ?_)
                refine xs_istore_5 eX7_bestBid_132 rfl ?_
                refine xs_iinc_6 eX7_bestBid_134 rfl ?_
                refine xa_goto (tgt := 27) eX7_bestBid_137 (by decide) ?_
                first
                  | (have e : bbF q9 m9 n N S (i + 1) = if (bbF q9 m9 n N S i).1 = -1 ∨ bbS q9 m9 n N S (i + 1) 4 (8 * 1 + q9) 1 < (bbF q9 m9 n N S i).2.1 ∨ (bbS q9 m9 n N S (i + 1) 4 (8 * 1 + q9) 1 = (bbF q9 m9 n N S i).2.1 ∧ (bbF q9 m9 n N S i).2.2 < bbS q9 m9 n N S (i + 1) 4 (8 * 1 + q9) 0) then ((i : Int), bbS q9 m9 n N S (i + 1) 4 (8 * 1 + q9) 1, bbS q9 m9 n N S (i + 1) 4 (8 * 1 + q9) 0) else bbF q9 m9 n N S i := rfl; rw [if_pos (by omega)] at e; have h9 := ih (i + 1) (by omega) (by omega) (xp 4 (8 * 1 + q9)) (xi 1); rw [e] at h9; exact h9)
                  | (have e : bbF q9 m9 n N S (i + 1) = if (bbF q9 m9 n N S i).1 = -1 ∨ bbS q9 m9 n N S (i + 1) 4 (8 * 1 + q9) 1 < (bbF q9 m9 n N S i).2.1 ∨ (bbS q9 m9 n N S (i + 1) 4 (8 * 1 + q9) 1 = (bbF q9 m9 n N S i).2.1 ∧ (bbF q9 m9 n N S i).2.2 < bbS q9 m9 n N S (i + 1) 4 (8 * 1 + q9) 0) then ((i : Int), bbS q9 m9 n N S (i + 1) 4 (8 * 1 + q9) 1, bbS q9 m9 n N S (i + 1) 4 (8 * 1 + q9) 0) else bbF q9 m9 n N S i := rfl; rw [if_neg (by omega)] at e; have h9 := ih (i + 1) (by omega) (by omega) (xp 4 (8 * 1 + q9)) (xi 1); rw [e] at h9; exact h9)
              · exact absurd c94 (by decide)
      refine xa_iconst eX7_bestBid_16 ?_
      refine xs_istore_3 eX7_bestBid_17 rfl ?_
      refine xa_iconst eX7_bestBid_18 ?_
      refine xs_istore_4 eX7_bestBid_19 rfl ?_
      refine xa_iconst eX7_bestBid_21 ?_
      refine xs_istore_5 eX7_bestBid_22 rfl ?_
      refine xa_iconst eX7_bestBid_24 ?_
      refine xs_istore_6 eX7_bestBid_25 rfl ?_
      exact lp 0 (by omega) xj xj
    · exact xbv_S3 (mi' := mX7_checkRange) (y := yX7_checkRange) eX7_bestBid_13 (xw_4 lRX7_45 wy_X7_checkRange) rfl rfl ⟨wd_X7_checkRange, by decide, by decide⟩ (Nat.le_of_ble_eq_true rfl) rfl ⟨by decide, by decide⟩ (kt_X7_checkRange ym (by decide) (by decide) c13 (xt_out rfl (hB2 S (by unfold o_bestBid; rw [if_pos c5, if_neg c13]) scr.rf)))
  · exact xbo_V1 (mi' := mX4_knownProcess) (y := yX4_knownProcess) eX7_bestBid_5 (xw_5 lRX7_60 wy_X4_knownProcess) rfl ⟨wd_X4_knownProcess, by decide, by decide⟩ (by decide) (fun _ => rfl) rfl (Nat.le_of_ble_eq_true rfl) rfl ⟨by decide, by decide⟩ (kt_X4_knownProcess hn h8 yq c5 (xt_out rfl (hB1 S (by unfold o_bestBid; rw [if_neg c5]) scr.rf)))
theorem rst_eq (M1 : Nat → Int) (S : xS) : cpA 32 0 31 0 527 (stM M1 S) = stM (cpA 32 0 31 0 527 (stM M1 S) 31 0) S := by
  funext k j f
  by_cases c : k = 31 ∧ j = 0
  · obtain ⟨rfl, rfl⟩ := c
    rw [stM_31]
  · have h1 : cpA 32 0 31 0 527 (stM M1 S) k j f = stM M1 S k j f := by unfold cpA; rw [if_neg (by omega)]
    have h2 : ∀ X, stM X S k j f = S k j f := fun X => by unfold stM; rw [if_neg c]
    rw [h1, h2, h2]
set_option maxHeartbeats 400000 in
theorem G_bestBid {w : xW} {S : xS} {B : String → xS → Prop} {A : Int → xS → Prop} {q m : Int} {n N : Nat} {T : Int} {C : xS} {M : Nat → Int} (hV : VS 0 n N T C) (hT : T ≤ 800000) (hR : Rel 0 n N C M) (yq : xr q) (ym : xr m)  (hq : ∀ r S' M', ((o_bestBid q m n N C).1 = 0 → r = (o_bestBid q m n N C).2.1) → rfr S' S → S' 30 0 4 = ((o_bestBid q m n N C).1 : Int) → Rel 0 (o_bestBid q m n N C).2.2.1 (o_bestBid q m n N C).2.2.2.1 (o_bestBid q m n N C).2.2.2.2 M' → A r (stM M' S')) : Ki w mX8_bestBid yX8_bestBid 0 0 [xp 30 0, xi q, xi m] (stM M S) A B := by
  refine K.of rfl rfl rfl rfl (Nat.le_of_ble_eq_true rfl) rfl ?_
  obtain ⟨hVT, hN20, h8, hg, hp, ho, hs⟩ := id hV
  have hn := hg.1
  have hN := hVT.1
  have ht := hVT.2.2.1
  have hM1 : M 1 = (n : Int) := by rw [hR.1 1 (by decide)]; exact hn
  have hM2 : M 2 = (N : Int) := by rw [hR.1 2 (by decide)]; exact hN
  refine xs_aload_0 eX8_bestBid_0 ?_
  refine xs_iload_1 eX8_bestBid_1 ?_
  refine xs_iload_2 eX8_bestBid_2 ?_
  refine xa_i2l eX8_bestBid_3 (by omega) ?_
  refine xa_lconst1 eX8_bestBid_4 ?_
  refine xa_ldc2 (a := 120) eX8_bestBid_5 lRX8_132 (by decide) ?_
  refine xbi_S30 (mi' := mX8_isBetween) (y := yX8_isBetween) eX8_bestBid_8 (xw_4 lRX8_61 wy_X8_isBetween) rfl rfl ⟨wd_X8_isBetween, by decide, by decide⟩ (Nat.le_of_ble_eq_true rfl) rfl (k_X8_isBetween (by omega) (by decide) (by decide) ?_)
  refine xbi_V20 (mi' := mX8_isRefused) (y := yX8_isRefused) eX8_bestBid_11 (xw_5 lRX8_102 wy_X8_isRefused) rfl ⟨wd_X8_isRefused, by decide, by decide⟩ (by decide) (fun _ => rfl) rfl (Nat.le_of_ble_eq_true rfl) rfl (r_X8_isRefused hV hR yq (fun k1 => ?_) (fun k1 k2 => ?_) (fun k1 k2 => ?_))
  · refine xa_if_eq (tgt := 19) eX8_bestBid_14 (by decide) (by decide) (fun c14 => ?_) (fun c14 => ?_)
    · exact absurd c14 (by decide)
    · refine xa_iconst eX8_bestBid_17 ?_
      exact xa_iret eX8_bestBid_18 rfl ⟨_, rfl, by have h9 := hq; unfold o_bestBid at h9; rw [if_neg k1] at h9; exact h9 _ _ _ (fun z => absurd z (Nat.succ_ne_zero _)) rfr.t (by rw [up_same]; rfl) hR⟩
  · refine xa_if_eq (tgt := 19) eX8_bestBid_14 (by decide) (by decide) (fun c14 => ?_) (fun c14 => ?_)
    · exact absurd c14 (by decide)
    · refine xa_iconst eX8_bestBid_17 ?_
      exact xa_iret eX8_bestBid_18 rfl ⟨_, rfl, by have h9 := hq; unfold o_bestBid at h9; rw [if_pos k1, if_neg k2] at h9; exact h9 _ _ _ (fun z => absurd z (Nat.succ_ne_zero _)) rfr.t (by rw [up_same]; rfl) hR⟩
  · refine xa_if_eq (tgt := 19) eX8_bestBid_14 (by decide) (by decide) (fun c14 => ?_) (fun c14 => ?_)
    · obtain ⟨q9, rfl⟩ : ∃ q9 : Nat, q = (q9 : Int) := ⟨q.toNat, by omega⟩
      have hqn : q9 < n := by omega
      obtain ⟨m9, rfl⟩ : ∃ m9 : Nat, m = (m9 : Int) := ⟨m.toNat, by omega⟩
      obtain ⟨S1, hS1e⟩ : ∃ S1 : xS, S1 = (cpA 31 0 32 0 527 (stM M (up S 30 0 4 0))) := ⟨_, rfl⟩
      have hS1 : rfr S1 S ∧ S1 30 0 4 = 0 ∧ ∀ f, f < 527 → S1 32 0 f = M f := by rw [hS1e]; exact ⟨(bkp_rfr M _).tr rfr.t, by rw [cpA_o (by decide), stM_k (by decide), up_same], fun f hf => bkp_32 hf⟩
      have lp : ∀ i : Nat, i ≤ 100 → ∀ (a7 a8 : xV) (M2 : Nat → Int), Rel 0 n N C M2 → X w mX8_bestBid (xTG w (fun v S' => ∃ a, v = some (xi a) ∧ A a S') B) 0 0 43 [xp 30 0, xi (q9 : Int), xi (m9 : Int), xi (bbF q9 m9 n N C i).1, xi (bbF q9 m9 n N C i).2.1, xi (bbF q9 m9 n N C i).2.2, xi (i : Int), a7, a8] [] (stM M2 S1) := by
        refine nloop 100 (fun i hi ih a7 a8 M2 hM2 => ?_)
        have hx := bbX (m := m9) hV hqn i (by omega)
        have hF := bbF_r (m := m9) hV hqn i (by omega)
        refine xs_iload_6 eX8_bestBid_43 ?_
        refine xa_bipush eX8_bestBid_45 (by decide) ?_
        refine xa_icmp_gt (tgt := 149) eX8_bestBid_47 (by decide) (by omega) (by decide) (fun c47 => ?_) (fun c47 => ?_)
        · refine xs_iload_3 eX8_bestBid_149 ?_
          exact xa_iret eX8_bestBid_150 rfl ⟨_, rfl, by have h9 := hq; unfold o_bestBid at h9; rw [if_pos k1, if_pos k2, Int.toNat_natCast, Int.toNat_natCast, ← show i = 100 by omega] at h9; exact h9 _ _ M2 (fun _ => rfl) hS1.1 hS1.2.1 hM2⟩
        · have hi9 : i < 100 := by omega
          have hV0 := hV.fr hx (by decide)
          have hV1 := bbV (m := m9) hV hqn hx hi9
          have hP := bbP (m := m9) hV hqn hi9
          unfold PQ at hP
          have hRi : Rel 1 n N (cpyS 0 1 n N (bbS q9 m9 n N C i)) M2 := (hM2.xts h8 hN20 hx (by decide)).cpys (by decide)
          have lp2 : ∀ t : Nat, t ≤ m9 → ∀ M4, Rel 1 n N (itr (tckS 1 n N) t (up (cpyS 0 1 n N (bbS q9 m9 n N C i)) 4 (8 * 1 + q9) 2 (i : Int))) M4 → X w mX8_bestBid (xTG w (fun v S' => ∃ a, v = some (xi a) ∧ A a S') B) 0 0 61 [xp 30 0, xi (q9 : Int), xi (m9 : Int), xi (bbF q9 m9 n N C i).1, xi (bbF q9 m9 n N C i).2.1, xi (bbF q9 m9 n N C i).2.2, xi (i : Int), xi (t : Int), a8] [] (stM M4 S1) := by
            refine nloop m9 (fun t ht9 ih2 M4 hM4 => ?_)
            refine xs_iload_7 eX8_bestBid_61 ?_
            refine xs_iload_2 eX8_bestBid_63 ?_
            refine xa_icmp_ge (tgt := 77) eX8_bestBid_64 (by decide) (by omega) (by omega) (fun c64 => ?_) (fun c64 => ?_)
            · have et : t = m9 := by omega
              rw [et] at hM4
              have hM4 : Rel 1 n N (bbS q9 m9 n N C (i + 1)) M4 := hM4
              refine xs_aload_0 eX8_bestBid_77 ?_
              refine xs_iload_1 eX8_bestBid_78 ?_
              refine xa_iconst eX8_bestBid_79 ?_
              refine xbi_V20 (mi' := mX8_of) (y := yX8_of) eX8_bestBid_80 (xw_5 lRX8_70 wy_X8_of) rfl ⟨wd_X8_of, by decide, by decide⟩ (by decide) (fun _ => rfl) rfl (Nat.le_of_ble_eq_true rfl) rfl (r_X8_of (p := q9) (g := 1) hM4 rfl rfl hqn h8 (by decide) ?_)
              refine xs_istore_7 eX8_bestBid_83 rfl ?_
              refine xs_aload_0 eX8_bestBid_85 ?_
              refine xs_iload_1 eX8_bestBid_86 ?_
              refine xa_iconst eX8_bestBid_87 ?_
              refine xbi_V20 (mi' := mX8_of) (y := yX8_of) eX8_bestBid_88 (xw_5 lRX8_70 wy_X8_of) rfl ⟨wd_X8_of, by decide, by decide⟩ (by decide) (fun _ => rfl) rfl (Nat.le_of_ble_eq_true rfl) rfl (r_X8_of (p := q9) (g := 0) hM4 rfl rfl hqn h8 (by decide) ?_)
              refine xs_istore_8 eX8_bestBid_91 rfl ?_
              refine xs_iload_3 eX8_bestBid_93 ?_
              refine xa_iconst eX8_bestBid_94 ?_
              refine xa_icmp_eq (tgt := 119) eX8_bestBid_95 (by decide) (by omega) (by decide) (fun c95 => ?_) (fun c95 => ?_)
              · refine xs_iload_6 eX8_bestBid_119 ?_
                refine xs_istore_3 eX8_bestBid_121 rfl ?_
                refine xs_iload_7 eX8_bestBid_122 ?_
                refine xs_istore_4 eX8_bestBid_124 rfl ?_
                refine xs_iload_8 eX8_bestBid_126 ?_
                refine xs_istore_5 eX8_bestBid_128 rfl ?_
                refine xs_aload_0 eX8_bestBid_130 ?_
                refine g_X8_1 eX8_bestBid_131 lRX8_13 ?_
                refine xa_iconst eX8_bestBid_134 ?_
                refine xs_aload_0 eX8_bestBid_135 ?_
                refine g_X8_0 eX8_bestBid_136 lRX8_7 ?_
                refine xa_iconst eX8_bestBid_139 ?_
                refine xbv_S40 (mi' := mX8_copy) (y := yX8_copy) eX8_bestBid_140 (xw_4 lRX8_180 wy_X8_copy) rfl rfl ⟨wd_X8_copy, by decide, by decide⟩ (Nat.le_of_ble_eq_true rfl) rfl (k_X8_copy_32_31 ?_)
                refine xs_iinc_6 eX8_bestBid_143 rfl ?_
                refine xa_goto (tgt := 43) eX8_bestBid_146 (by decide) ?_
                rw [rst_eq]
                first
                  | (have e : bbF q9 m9 n N C (i + 1) = if (bbF q9 m9 n N C i).1 = -1 ∨ bbS q9 m9 n N C (i + 1) 4 (8 * 1 + q9) 1 < (bbF q9 m9 n N C i).2.1 ∨ (bbS q9 m9 n N C (i + 1) 4 (8 * 1 + q9) 1 = (bbF q9 m9 n N C i).2.1 ∧ (bbF q9 m9 n N C i).2.2 < bbS q9 m9 n N C (i + 1) 4 (8 * 1 + q9) 0) then ((i : Int), bbS q9 m9 n N C (i + 1) 4 (8 * 1 + q9) 1, bbS q9 m9 n N C (i + 1) 4 (8 * 1 + q9) 0) else bbF q9 m9 n N C i := rfl; rw [if_pos (by omega)] at e; have h9 := ih (i + 1) (by omega) (by omega) (xi (bbS q9 m9 n N C (i + 1) 4 (8 * 1 + q9) 1)) (xi (bbS q9 m9 n N C (i + 1) 4 (8 * 1 + q9) 0)) (cpA 32 0 31 0 527 (stM M4 S1) 31 0) (rst_rel hR hN20 hS1.2.2); rw [e] at h9; exact h9)
                  | (have e : bbF q9 m9 n N C (i + 1) = if (bbF q9 m9 n N C i).1 = -1 ∨ bbS q9 m9 n N C (i + 1) 4 (8 * 1 + q9) 1 < (bbF q9 m9 n N C i).2.1 ∨ (bbS q9 m9 n N C (i + 1) 4 (8 * 1 + q9) 1 = (bbF q9 m9 n N C i).2.1 ∧ (bbF q9 m9 n N C i).2.2 < bbS q9 m9 n N C (i + 1) 4 (8 * 1 + q9) 0) then ((i : Int), bbS q9 m9 n N C (i + 1) 4 (8 * 1 + q9) 1, bbS q9 m9 n N C (i + 1) 4 (8 * 1 + q9) 0) else bbF q9 m9 n N C i := rfl; rw [if_neg (by omega)] at e; have h9 := ih (i + 1) (by omega) (by omega) (xi (bbS q9 m9 n N C (i + 1) 4 (8 * 1 + q9) 1)) (xi (bbS q9 m9 n N C (i + 1) 4 (8 * 1 + q9) 0)) (cpA 32 0 31 0 527 (stM M4 S1) 31 0) (rst_rel hR hN20 hS1.2.2); rw [e] at h9; exact h9)
              · refine xs_iload_7 eX8_bestBid_98 ?_
                refine xs_iload_4 eX8_bestBid_100 ?_
                refine xa_icmp_lt (tgt := 119) eX8_bestBid_102 (by decide) (by omega) (by omega) (fun c102 => ?_) (fun c102 => ?_)
                · refine xs_iload_6 eX8_bestBid_119 ?_
                  refine xs_istore_3 eX8_bestBid_121 rfl ?_
                  refine xs_iload_7 eX8_bestBid_122 ?_
                  refine xs_istore_4 eX8_bestBid_124 rfl ?_
                  refine xs_iload_8 eX8_bestBid_126 ?_
                  refine xs_istore_5 eX8_bestBid_128 rfl ?_
                  refine xs_aload_0 eX8_bestBid_130 ?_
                  refine g_X8_1 eX8_bestBid_131 lRX8_13 ?_
                  refine xa_iconst eX8_bestBid_134 ?_
                  refine xs_aload_0 eX8_bestBid_135 ?_
                  refine g_X8_0 eX8_bestBid_136 lRX8_7 ?_
                  refine xa_iconst eX8_bestBid_139 ?_
                  refine xbv_S40 (mi' := mX8_copy) (y := yX8_copy) eX8_bestBid_140 (xw_4 lRX8_180 wy_X8_copy) rfl rfl ⟨wd_X8_copy, by decide, by decide⟩ (Nat.le_of_ble_eq_true rfl) rfl (k_X8_copy_32_31 ?_)
                  refine xs_iinc_6 eX8_bestBid_143 rfl ?_
                  refine xa_goto (tgt := 43) eX8_bestBid_146 (by decide) ?_
                  rw [rst_eq]
                  first
                    | (have e : bbF q9 m9 n N C (i + 1) = if (bbF q9 m9 n N C i).1 = -1 ∨ bbS q9 m9 n N C (i + 1) 4 (8 * 1 + q9) 1 < (bbF q9 m9 n N C i).2.1 ∨ (bbS q9 m9 n N C (i + 1) 4 (8 * 1 + q9) 1 = (bbF q9 m9 n N C i).2.1 ∧ (bbF q9 m9 n N C i).2.2 < bbS q9 m9 n N C (i + 1) 4 (8 * 1 + q9) 0) then ((i : Int), bbS q9 m9 n N C (i + 1) 4 (8 * 1 + q9) 1, bbS q9 m9 n N C (i + 1) 4 (8 * 1 + q9) 0) else bbF q9 m9 n N C i := rfl; rw [if_pos (by omega)] at e; have h9 := ih (i + 1) (by omega) (by omega) (xi (bbS q9 m9 n N C (i + 1) 4 (8 * 1 + q9) 1)) (xi (bbS q9 m9 n N C (i + 1) 4 (8 * 1 + q9) 0)) (cpA 32 0 31 0 527 (stM M4 S1) 31 0) (rst_rel hR hN20 hS1.2.2); rw [e] at h9; exact h9)
                    | (have e : bbF q9 m9 n N C (i + 1) = if (bbF q9 m9 n N C i).1 = -1 ∨ bbS q9 m9 n N C (i + 1) 4 (8 * 1 + q9) 1 < (bbF q9 m9 n N C i).2.1 ∨ (bbS q9 m9 n N C (i + 1) 4 (8 * 1 + q9) 1 = (bbF q9 m9 n N C i).2.1 ∧ (bbF q9 m9 n N C i).2.2 < bbS q9 m9 n N C (i + 1) 4 (8 * 1 + q9) 0) then ((i : Int), bbS q9 m9 n N C (i + 1) 4 (8 * 1 + q9) 1, bbS q9 m9 n N C (i + 1) 4 (8 * 1 + q9) 0) else bbF q9 m9 n N C i := rfl; rw [if_neg (by omega)] at e; have h9 := ih (i + 1) (by omega) (by omega) (xi (bbS q9 m9 n N C (i + 1) 4 (8 * 1 + q9) 1)) (xi (bbS q9 m9 n N C (i + 1) 4 (8 * 1 + q9) 0)) (cpA 32 0 31 0 527 (stM M4 S1) 31 0) (rst_rel hR hN20 hS1.2.2); rw [e] at h9; exact h9)
                · refine xs_iload_7 eX8_bestBid_105 ?_
                  refine xs_iload_4 eX8_bestBid_107 ?_
                  refine xa_icmp_ne (tgt := 130) eX8_bestBid_109 (by decide) (by omega) (by omega) (fun c109 => ?_) (fun c109 => ?_)
                  · refine xs_aload_0 eX8_bestBid_130 ?_
                    refine g_X8_1 eX8_bestBid_131 lRX8_13 ?_
                    refine xa_iconst eX8_bestBid_134 ?_
                    refine xs_aload_0 eX8_bestBid_135 ?_
                    refine g_X8_0 eX8_bestBid_136 lRX8_7 ?_
                    refine xa_iconst eX8_bestBid_139 ?_
                    refine xbv_S40 (mi' := mX8_copy) (y := yX8_copy) eX8_bestBid_140 (xw_4 lRX8_180 wy_X8_copy) rfl rfl ⟨wd_X8_copy, by decide, by decide⟩ (Nat.le_of_ble_eq_true rfl) rfl (k_X8_copy_32_31 ?_)
                    refine xs_iinc_6 eX8_bestBid_143 rfl ?_
                    refine xa_goto (tgt := 43) eX8_bestBid_146 (by decide) ?_
                    rw [rst_eq]
                    first
                      | (have e : bbF q9 m9 n N C (i + 1) = if (bbF q9 m9 n N C i).1 = -1 ∨ bbS q9 m9 n N C (i + 1) 4 (8 * 1 + q9) 1 < (bbF q9 m9 n N C i).2.1 ∨ (bbS q9 m9 n N C (i + 1) 4 (8 * 1 + q9) 1 = (bbF q9 m9 n N C i).2.1 ∧ (bbF q9 m9 n N C i).2.2 < bbS q9 m9 n N C (i + 1) 4 (8 * 1 + q9) 0) then ((i : Int), bbS q9 m9 n N C (i + 1) 4 (8 * 1 + q9) 1, bbS q9 m9 n N C (i + 1) 4 (8 * 1 + q9) 0) else bbF q9 m9 n N C i := rfl; rw [if_pos (by omega)] at e; have h9 := ih (i + 1) (by omega) (by omega) (xi (bbS q9 m9 n N C (i + 1) 4 (8 * 1 + q9) 1)) (xi (bbS q9 m9 n N C (i + 1) 4 (8 * 1 + q9) 0)) (cpA 32 0 31 0 527 (stM M4 S1) 31 0) (rst_rel hR hN20 hS1.2.2); rw [e] at h9; exact h9)
                      | (have e : bbF q9 m9 n N C (i + 1) = if (bbF q9 m9 n N C i).1 = -1 ∨ bbS q9 m9 n N C (i + 1) 4 (8 * 1 + q9) 1 < (bbF q9 m9 n N C i).2.1 ∨ (bbS q9 m9 n N C (i + 1) 4 (8 * 1 + q9) 1 = (bbF q9 m9 n N C i).2.1 ∧ (bbF q9 m9 n N C i).2.2 < bbS q9 m9 n N C (i + 1) 4 (8 * 1 + q9) 0) then ((i : Int), bbS q9 m9 n N C (i + 1) 4 (8 * 1 + q9) 1, bbS q9 m9 n N C (i + 1) 4 (8 * 1 + q9) 0) else bbF q9 m9 n N C i := rfl; rw [if_neg (by omega)] at e; have h9 := ih (i + 1) (by omega) (by omega) (xi (bbS q9 m9 n N C (i + 1) 4 (8 * 1 + q9) 1)) (xi (bbS q9 m9 n N C (i + 1) 4 (8 * 1 + q9) 0)) (cpA 32 0 31 0 527 (stM M4 S1) 31 0) (rst_rel hR hN20 hS1.2.2); rw [e] at h9; exact h9)
                  · refine xs_iload_8 eX8_bestBid_112 ?_
                    refine xs_iload_5 eX8_bestBid_114 ?_
                    refine xa_icmp_le (tgt := 130) eX8_bestBid_116 (by decide) (by omega) (by omega) (fun c116 => ?_) (fun c116 => ?_)
                    · refine xs_aload_0 eX8_bestBid_130 ?_
                      refine g_X8_1 eX8_bestBid_131 lRX8_13 ?_
                      refine xa_iconst eX8_bestBid_134 ?_
                      refine xs_aload_0 eX8_bestBid_135 ?_
                      refine g_X8_0 eX8_bestBid_136 lRX8_7 ?_
                      refine xa_iconst eX8_bestBid_139 ?_
                      refine xbv_S40 (mi' := mX8_copy) (y := yX8_copy) eX8_bestBid_140 (xw_4 lRX8_180 wy_X8_copy) rfl rfl ⟨wd_X8_copy, by decide, by decide⟩ (Nat.le_of_ble_eq_true rfl) rfl (k_X8_copy_32_31 ?_)
                      refine xs_iinc_6 eX8_bestBid_143 rfl ?_
                      refine xa_goto (tgt := 43) eX8_bestBid_146 (by decide) ?_
                      rw [rst_eq]
                      first
                        | (have e : bbF q9 m9 n N C (i + 1) = if (bbF q9 m9 n N C i).1 = -1 ∨ bbS q9 m9 n N C (i + 1) 4 (8 * 1 + q9) 1 < (bbF q9 m9 n N C i).2.1 ∨ (bbS q9 m9 n N C (i + 1) 4 (8 * 1 + q9) 1 = (bbF q9 m9 n N C i).2.1 ∧ (bbF q9 m9 n N C i).2.2 < bbS q9 m9 n N C (i + 1) 4 (8 * 1 + q9) 0) then ((i : Int), bbS q9 m9 n N C (i + 1) 4 (8 * 1 + q9) 1, bbS q9 m9 n N C (i + 1) 4 (8 * 1 + q9) 0) else bbF q9 m9 n N C i := rfl; rw [if_pos (by omega)] at e; have h9 := ih (i + 1) (by omega) (by omega) (xi (bbS q9 m9 n N C (i + 1) 4 (8 * 1 + q9) 1)) (xi (bbS q9 m9 n N C (i + 1) 4 (8 * 1 + q9) 0)) (cpA 32 0 31 0 527 (stM M4 S1) 31 0) (rst_rel hR hN20 hS1.2.2); rw [e] at h9; exact h9)
                        | (have e : bbF q9 m9 n N C (i + 1) = if (bbF q9 m9 n N C i).1 = -1 ∨ bbS q9 m9 n N C (i + 1) 4 (8 * 1 + q9) 1 < (bbF q9 m9 n N C i).2.1 ∨ (bbS q9 m9 n N C (i + 1) 4 (8 * 1 + q9) 1 = (bbF q9 m9 n N C i).2.1 ∧ (bbF q9 m9 n N C i).2.2 < bbS q9 m9 n N C (i + 1) 4 (8 * 1 + q9) 0) then ((i : Int), bbS q9 m9 n N C (i + 1) 4 (8 * 1 + q9) 1, bbS q9 m9 n N C (i + 1) 4 (8 * 1 + q9) 0) else bbF q9 m9 n N C i := rfl; rw [if_neg (by omega)] at e; have h9 := ih (i + 1) (by omega) (by omega) (xi (bbS q9 m9 n N C (i + 1) 4 (8 * 1 + q9) 1)) (xi (bbS q9 m9 n N C (i + 1) 4 (8 * 1 + q9) 0)) (cpA 32 0 31 0 527 (stM M4 S1) 31 0) (rst_rel hR hN20 hS1.2.2); rw [e] at h9; exact h9)
                    · refine xs_iload_6 eX8_bestBid_119 ?_
                      refine xs_istore_3 eX8_bestBid_121 rfl ?_
                      refine xs_iload_7 eX8_bestBid_122 ?_
                      refine xs_istore_4 eX8_bestBid_124 rfl ?_
                      refine xs_iload_8 eX8_bestBid_126 ?_
                      refine xs_istore_5 eX8_bestBid_128 rfl ?_
                      refine xs_aload_0 eX8_bestBid_130 ?_
                      refine g_X8_1 eX8_bestBid_131 lRX8_13 ?_
                      refine xa_iconst eX8_bestBid_134 ?_
                      refine xs_aload_0 eX8_bestBid_135 ?_
                      refine g_X8_0 eX8_bestBid_136 lRX8_7 ?_
                      refine xa_iconst eX8_bestBid_139 ?_
                      refine xbv_S40 (mi' := mX8_copy) (y := yX8_copy) eX8_bestBid_140 (xw_4 lRX8_180 wy_X8_copy) rfl rfl ⟨wd_X8_copy, by decide, by decide⟩ (Nat.le_of_ble_eq_true rfl) rfl (k_X8_copy_32_31 ?_)
                      refine xs_iinc_6 eX8_bestBid_143 rfl ?_
                      refine xa_goto (tgt := 43) eX8_bestBid_146 (by decide) ?_
                      rw [rst_eq]
                      first
                        | (have e : bbF q9 m9 n N C (i + 1) = if (bbF q9 m9 n N C i).1 = -1 ∨ bbS q9 m9 n N C (i + 1) 4 (8 * 1 + q9) 1 < (bbF q9 m9 n N C i).2.1 ∨ (bbS q9 m9 n N C (i + 1) 4 (8 * 1 + q9) 1 = (bbF q9 m9 n N C i).2.1 ∧ (bbF q9 m9 n N C i).2.2 < bbS q9 m9 n N C (i + 1) 4 (8 * 1 + q9) 0) then ((i : Int), bbS q9 m9 n N C (i + 1) 4 (8 * 1 + q9) 1, bbS q9 m9 n N C (i + 1) 4 (8 * 1 + q9) 0) else bbF q9 m9 n N C i := rfl; rw [if_pos (by omega)] at e; have h9 := ih (i + 1) (by omega) (by omega) (xi (bbS q9 m9 n N C (i + 1) 4 (8 * 1 + q9) 1)) (xi (bbS q9 m9 n N C (i + 1) 4 (8 * 1 + q9) 0)) (cpA 32 0 31 0 527 (stM M4 S1) 31 0) (rst_rel hR hN20 hS1.2.2); rw [e] at h9; exact h9)
                        | (have e : bbF q9 m9 n N C (i + 1) = if (bbF q9 m9 n N C i).1 = -1 ∨ bbS q9 m9 n N C (i + 1) 4 (8 * 1 + q9) 1 < (bbF q9 m9 n N C i).2.1 ∨ (bbS q9 m9 n N C (i + 1) 4 (8 * 1 + q9) 1 = (bbF q9 m9 n N C i).2.1 ∧ (bbF q9 m9 n N C i).2.2 < bbS q9 m9 n N C (i + 1) 4 (8 * 1 + q9) 0) then ((i : Int), bbS q9 m9 n N C (i + 1) 4 (8 * 1 + q9) 1, bbS q9 m9 n N C (i + 1) 4 (8 * 1 + q9) 0) else bbF q9 m9 n N C i := rfl; rw [if_neg (by omega)] at e; have h9 := ih (i + 1) (by omega) (by omega) (xi (bbS q9 m9 n N C (i + 1) 4 (8 * 1 + q9) 1)) (xi (bbS q9 m9 n N C (i + 1) 4 (8 * 1 + q9) 0)) (cpA 32 0 31 0 527 (stM M4 S1) 31 0) (rst_rel hR hN20 hS1.2.2); rw [e] at h9; exact h9)
            · refine xs_aload_0 eX8_bestBid_67 ?_
              refine xbv_V00 (mi' := mX8_tick) (y := yX8_tick) eX8_bestBid_68 (xw_5 lRX8_184 wy_X8_tick) rfl ⟨wd_X8_tick, by decide, by decide⟩ (by decide) (fun _ => rfl) rfl (Nat.le_of_ble_eq_true rfl) rfl (f_X8_tick (hV1.itr t) (by omega) hM4 (fun M5 hM5 => ?_))
              refine xs_iinc_7 eX8_bestBid_71 rfl ?_
              refine xa_goto (tgt := 61) eX8_bestBid_74 (by decide) ?_
              have h9 := ih2 (t + 1) (by omega) (by omega) M5 hM5
              rw [show (t : Int) + 1 = ((t + 1 : Nat) : Int) by omega]
              exact h9
          refine xs_aload_0 eX8_bestBid_50 ?_
          refine xs_iload_1 eX8_bestBid_51 ?_
          refine xa_iconst eX8_bestBid_52 ?_
          refine xs_iload_6 eX8_bestBid_53 ?_
          refine xbv_V30 (mi' := mX8_put) (y := yX8_put) eX8_bestBid_55 (xw_5 lRX8_79 wy_X8_put) rfl ⟨wd_X8_put, by decide, by decide⟩ (by decide) (fun _ => rfl) rfl (Nat.le_of_ble_eq_true rfl) rfl (r_X8_put (s := 1) (p := q9) (g := 2) hRi rfl rfl hqn h8 hN20 (by decide) (by omega) (fun M3 hM3 => ?_))
          refine xa_iconst eX8_bestBid_58 ?_
          refine xs_istore_7 eX8_bestBid_59 rfl ?_
          exact lp2 0 (by omega) M3 hM3
      refine xa_iconst eX8_bestBid_19 ?_
      refine xs_istore_3 eX8_bestBid_20 rfl ?_
      refine xa_iconst eX8_bestBid_21 ?_
      refine xs_istore_4 eX8_bestBid_22 rfl ?_
      refine xa_iconst eX8_bestBid_24 ?_
      refine xs_istore_5 eX8_bestBid_25 rfl ?_
      refine xs_aload_0 eX8_bestBid_27 ?_
      refine g_X8_0 eX8_bestBid_28 lRX8_7 ?_
      refine xa_iconst eX8_bestBid_31 ?_
      refine xs_aload_0 eX8_bestBid_32 ?_
      refine g_X8_1 eX8_bestBid_33 lRX8_13 ?_
      refine xa_iconst eX8_bestBid_36 ?_
      refine xbv_S40 (mi' := mX8_copy) (y := yX8_copy) eX8_bestBid_37 (xw_4 lRX8_180 wy_X8_copy) rfl rfl ⟨wd_X8_copy, by decide, by decide⟩ (Nat.le_of_ble_eq_true rfl) rfl (k_X8_copy_31_32 ?_)
      rw [bkp, ← hS1e]
      refine xa_iconst eX8_bestBid_40 ?_
      refine xs_istore_6 eX8_bestBid_41 rfl ?_
      exact lp 0 (by omega) xj xj M hR
    · exact absurd rfl c14
