/-! PromiseMarketModel: acceptance -/
set_option maxHeartbeats 400000 in
theorem f_X8_layLine {w : xW} {S : xS} {B : String → xS → Prop} {A : xS → Prop} {s n N : Nat} {T : Int} {C : xS} (hV : VS s n N T C) (hT : T ≤ 1000000) (hR : Rel s n N C (S 31 0)) (hq : ∀ S', lnf S' S → RLn s N C S' → A S') : Kv w mX8_layLine yX8_layLine 0 0 [xp 30 0] S A B := by
  refine K.of rfl rfl rfl rfl (Nat.le_of_ble_eq_true rfl) rfl ?_
  have hN20 := hV.2.1
  have ht := hV.1.2.2.1
  have lp : ∀ i : Nat, i ≤ N → ∀ (S1 : xS) (_ : RLn s i C S1) (_ : lnf S1 S), X w mX8_layLine (xTG w (fun v S' => v = none ∧ A S') B) 0 0 7 [xp 30 0, xi (i : Int)] [] S1 := by
    refine nloop (N) (fun i hi ih S1 hI hx => ?_)
    have eM : S1 31 0 = S 31 0 := hx.1 31 0 (Or.inl (by decide)) (by decide)
    have h2 : S1 31 0 2 = (N : Int) := by rw [eM, hR.1 2 (by decide)]; exact hV.1.1
    have eL : S1 30 0 11 = (lvc s C i : Int) := hI.1
    refine xs_iload_1 eX8_layLine_7 ?_
    refine xa_i2l eX8_layLine_8 (by omega) ?_
    refine xs_aload_0 eX8_layLine_9 ?_
    refine g_X8_0 eX8_layLine_10 lRX8_7 ?_
    refine xa_iconst eX8_layLine_13 ?_
    refine gar_31 eX8_layLine_14 (by decide) (fun r14 => ?_)
    try simp (decide := true) only [up_app, if_false, false_and, and_false, if_true, and_true, true_and, eL, h2, show (0 : Int).toNat = 0 from rfl, show (1 : Int).toNat = 1 from rfl, show (2 : Int).toNat = 2 from rfl, show (3 : Int).toNat = 3 from rfl, show (4 : Int).toNat = 4 from rfl, show (5 : Int).toNat = 5 from rfl, show (6 : Int).toNat = 6 from rfl, show (7 : Int).toNat = 7 from rfl, show (8 : Int).toNat = 8 from rfl, show (9 : Int).toNat = 9 from rfl, show (10 : Int).toNat = 10 from rfl, show (11 : Int).toNat = 11 from rfl, show (12 : Int).toNat = 12 from rfl, show (13 : Int).toNat = 13 from rfl, show (14 : Int).toNat = 14 from rfl, Int.toNat_natCast] at r14 ⊢
    refine xa_lcmp eX8_layLine_15 (by omega) (by omega) ?_
    refine xa_ifc_ge (tgt := 150) eX8_layLine_16 (by decide) (fun c16 => ?_) (fun c16 => ?_)
    · exact xa_vret eX8_layLine_150 rfl ⟨rfl, hq S1 hx (by have e : i = N := (by omega); rw [e] at hI; exact hI)⟩
    · have hiN : i < N := by omega
      have hPi := hR.2.2.1 i hiN
      have hTi := hV.t hiN
      unfold TQ at hTi
      have t0 : S1 31 0 (103 + 18 * i + 0) = C 10 (32 * s + i) 0 := by rw [eM]; exact hR.q hiN (by decide) (by decide) (by decide) (by decide)
      have t2 : S1 31 0 (103 + 18 * i + 2) = C 10 (32 * s + i) 2 := by rw [eM]; exact hR.q hiN (by decide) (by decide) (by decide) (by decide)
      have t3 : S1 31 0 (103 + 18 * i + 3) = C 10 (32 * s + i) 3 := by rw [eM]; exact hR.q hiN (by decide) (by decide) (by decide) (by decide)
      have t4 : S1 31 0 (103 + 18 * i + 4) = C 10 (32 * s + i) 4 := by rw [eM]; exact hR.q hiN (by decide) (by decide) (by decide) (by decide)
      have t5 : S1 31 0 (103 + 18 * i + 5) = C 10 (32 * s + i) 5 := by rw [eM]; exact hR.q hiN (by decide) (by decide) (by decide) (by decide)
      have tt : S1 31 0 0 = C 2 s 2 := by rw [eM]; exact hR.1 0 (by decide)
      have hP2 : PR (C 2 s 2) (C 10 (32 * s + i)) (fun f => S1 31 0 (103 + 18 * i + f)) := by rw [eM]; exact hPi
      unfold PR at hP2
      dsimp only at hP2
      have hll := lvc_le s C i
      refine xs_aload_0 eX8_layLine_19 ?_
      refine xs_iload_1 eX8_layLine_20 ?_
      refine xbi_V10 (mi' := mX8_hasEnded) (y := yX8_hasEnded) eX8_layLine_21 (xw_5 lRX8_119 wy_X8_hasEnded) rfl ⟨wd_X8_hasEnded, by decide, by decide⟩ (by decide) (fun _ => rfl) rfl (Nat.le_of_ble_eq_true rfl) rfl (k_X8_hasEnded (j := i) rfl (by omega) (by rw [t0]; omega) ?_)
      try simp (decide := true) only [up_app, if_false, false_and, and_false, if_true, and_true, true_and, eL, t0, t2, t3, t4, t5, show (0 : Int).toNat = 0 from rfl, show (1 : Int).toNat = 1 from rfl, show (2 : Int).toNat = 2 from rfl, show (3 : Int).toNat = 3 from rfl, show (4 : Int).toNat = 4 from rfl, show (5 : Int).toNat = 5 from rfl, show (6 : Int).toNat = 6 from rfl, show (7 : Int).toNat = 7 from rfl, show (8 : Int).toNat = 8 from rfl, show (9 : Int).toNat = 9 from rfl, show (10 : Int).toNat = 10 from rfl, show (11 : Int).toNat = 11 from rfl, show (12 : Int).toNat = 12 from rfl, show (13 : Int).toNat = 13 from rfl, show (14 : Int).toNat = 14 from rfl, Int.toNat_natCast]
      refine xa_ifb_eq (tgt := 30) eX8_layLine_24 (by decide) (fun c24 => ?_) (fun c24 => ?_)
      · refine xs_aload_0 eX8_layLine_30 ?_
        refine g_X8_5 eX8_layLine_31 lRX8_23 ?_
        refine xs_aload_0 eX8_layLine_34 ?_
        refine gr_X8_11 eX8_layLine_35 lRX8_140 (fun r35 => ?_)
        try simp (decide := true) only [up_app, if_false, false_and, and_false, if_true, and_true, true_and, eL, h2, show (0 : Int).toNat = 0 from rfl, show (1 : Int).toNat = 1 from rfl, show (2 : Int).toNat = 2 from rfl, show (3 : Int).toNat = 3 from rfl, show (4 : Int).toNat = 4 from rfl, show (5 : Int).toNat = 5 from rfl, show (6 : Int).toNat = 6 from rfl, show (7 : Int).toNat = 7 from rfl, show (8 : Int).toNat = 8 from rfl, show (9 : Int).toNat = 9 from rfl, show (10 : Int).toNat = 10 from rfl, show (11 : Int).toNat = 11 from rfl, show (12 : Int).toNat = 12 from rfl, show (13 : Int).toNat = 13 from rfl, show (14 : Int).toNat = 14 from rfl, Int.toNat_natCast] at r35 ⊢
        refine xs_aload_0 eX8_layLine_38 ?_
        refine xs_iload_1 eX8_layLine_39 ?_
        refine xa_iconst eX8_layLine_40 ?_
        refine xbi_V20 (mi' := mX8_told0) (y := yX8_told0) eX8_layLine_41 (xw_5 lRX8_122 wy_X8_told0) rfl ⟨wd_X8_told0, by decide, by decide⟩ (by decide) (fun _ => rfl) rfl (Nat.le_of_ble_eq_true rfl) rfl (k_X8_told0 (p := i) (g := 2) rfl rfl (by omega) (by decide) ?_)
        try simp (decide := true) only [up_app, if_false, false_and, and_false, if_true, and_true, true_and, eL, t0, t2, t3, t4, t5, show (0 : Int).toNat = 0 from rfl, show (1 : Int).toNat = 1 from rfl, show (2 : Int).toNat = 2 from rfl, show (3 : Int).toNat = 3 from rfl, show (4 : Int).toNat = 4 from rfl, show (5 : Int).toNat = 5 from rfl, show (6 : Int).toNat = 6 from rfl, show (7 : Int).toNat = 7 from rfl, show (8 : Int).toNat = 8 from rfl, show (9 : Int).toNat = 9 from rfl, show (10 : Int).toNat = 10 from rfl, show (11 : Int).toNat = 11 from rfl, show (12 : Int).toNat = 12 from rfl, show (13 : Int).toNat = 13 from rfl, show (14 : Int).toNat = 14 from rfl, Int.toNat_natCast]
        refine pa_35 eX8_layLine_44 (by omega) (by omega) ?_
        refine xs_aload_0 eX8_layLine_45 ?_
        refine g_X8_6 eX8_layLine_46 lRX8_27 ?_
        refine xs_aload_0 eX8_layLine_49 ?_
        refine gr_X8_11 eX8_layLine_50 lRX8_140 (fun r50 => ?_)
        try simp (decide := true) only [up_app, if_false, false_and, and_false, if_true, and_true, true_and, eL, h2, show (0 : Int).toNat = 0 from rfl, show (1 : Int).toNat = 1 from rfl, show (2 : Int).toNat = 2 from rfl, show (3 : Int).toNat = 3 from rfl, show (4 : Int).toNat = 4 from rfl, show (5 : Int).toNat = 5 from rfl, show (6 : Int).toNat = 6 from rfl, show (7 : Int).toNat = 7 from rfl, show (8 : Int).toNat = 8 from rfl, show (9 : Int).toNat = 9 from rfl, show (10 : Int).toNat = 10 from rfl, show (11 : Int).toNat = 11 from rfl, show (12 : Int).toNat = 12 from rfl, show (13 : Int).toNat = 13 from rfl, show (14 : Int).toNat = 14 from rfl, Int.toNat_natCast] at r50 ⊢
        refine xs_aload_0 eX8_layLine_53 ?_
        refine xs_iload_1 eX8_layLine_54 ?_
        refine xa_iconst eX8_layLine_55 ?_
        refine xbi_V20 (mi' := mX8_told0) (y := yX8_told0) eX8_layLine_56 (xw_5 lRX8_122 wy_X8_told0) rfl ⟨wd_X8_told0, by decide, by decide⟩ (by decide) (fun _ => rfl) rfl (Nat.le_of_ble_eq_true rfl) rfl (k_X8_told0 (p := i) (g := 3) rfl rfl (by omega) (by decide) ?_)
        try simp (decide := true) only [up_app, if_false, false_and, and_false, if_true, and_true, true_and, eL, t0, t2, t3, t4, t5, show (0 : Int).toNat = 0 from rfl, show (1 : Int).toNat = 1 from rfl, show (2 : Int).toNat = 2 from rfl, show (3 : Int).toNat = 3 from rfl, show (4 : Int).toNat = 4 from rfl, show (5 : Int).toNat = 5 from rfl, show (6 : Int).toNat = 6 from rfl, show (7 : Int).toNat = 7 from rfl, show (8 : Int).toNat = 8 from rfl, show (9 : Int).toNat = 9 from rfl, show (10 : Int).toNat = 10 from rfl, show (11 : Int).toNat = 11 from rfl, show (12 : Int).toNat = 12 from rfl, show (13 : Int).toNat = 13 from rfl, show (14 : Int).toNat = 14 from rfl, Int.toNat_natCast]
        refine pa_36 eX8_layLine_59 (by omega) (by omega) ?_
        refine xs_aload_0 eX8_layLine_60 ?_
        refine g_X8_7 eX8_layLine_61 lRX8_30 ?_
        refine xs_aload_0 eX8_layLine_64 ?_
        refine gr_X8_11 eX8_layLine_65 lRX8_140 (fun r65 => ?_)
        try simp (decide := true) only [up_app, if_false, false_and, and_false, if_true, and_true, true_and, eL, h2, show (0 : Int).toNat = 0 from rfl, show (1 : Int).toNat = 1 from rfl, show (2 : Int).toNat = 2 from rfl, show (3 : Int).toNat = 3 from rfl, show (4 : Int).toNat = 4 from rfl, show (5 : Int).toNat = 5 from rfl, show (6 : Int).toNat = 6 from rfl, show (7 : Int).toNat = 7 from rfl, show (8 : Int).toNat = 8 from rfl, show (9 : Int).toNat = 9 from rfl, show (10 : Int).toNat = 10 from rfl, show (11 : Int).toNat = 11 from rfl, show (12 : Int).toNat = 12 from rfl, show (13 : Int).toNat = 13 from rfl, show (14 : Int).toNat = 14 from rfl, Int.toNat_natCast] at r65 ⊢
        refine xs_aload_0 eX8_layLine_68 ?_
        refine xs_iload_1 eX8_layLine_69 ?_
        refine xa_iconst eX8_layLine_70 ?_
        refine xbi_V20 (mi' := mX8_told0) (y := yX8_told0) eX8_layLine_71 (xw_5 lRX8_122 wy_X8_told0) rfl ⟨wd_X8_told0, by decide, by decide⟩ (by decide) (fun _ => rfl) rfl (Nat.le_of_ble_eq_true rfl) rfl (k_X8_told0 (p := i) (g := 4) rfl rfl (by omega) (by decide) ?_)
        try simp (decide := true) only [up_app, if_false, false_and, and_false, if_true, and_true, true_and, eL, t0, t2, t3, t4, t5, show (0 : Int).toNat = 0 from rfl, show (1 : Int).toNat = 1 from rfl, show (2 : Int).toNat = 2 from rfl, show (3 : Int).toNat = 3 from rfl, show (4 : Int).toNat = 4 from rfl, show (5 : Int).toNat = 5 from rfl, show (6 : Int).toNat = 6 from rfl, show (7 : Int).toNat = 7 from rfl, show (8 : Int).toNat = 8 from rfl, show (9 : Int).toNat = 9 from rfl, show (10 : Int).toNat = 10 from rfl, show (11 : Int).toNat = 11 from rfl, show (12 : Int).toNat = 12 from rfl, show (13 : Int).toNat = 13 from rfl, show (14 : Int).toNat = 14 from rfl, Int.toNat_natCast]
        refine pa_37 eX8_layLine_74 (by omega) (by omega) ?_
        refine xs_aload_0 eX8_layLine_75 ?_
        refine g_X8_8 eX8_layLine_76 lRX8_33 ?_
        refine xs_aload_0 eX8_layLine_79 ?_
        refine gr_X8_11 eX8_layLine_80 lRX8_140 (fun r80 => ?_)
        try simp (decide := true) only [up_app, if_false, false_and, and_false, if_true, and_true, true_and, eL, h2, show (0 : Int).toNat = 0 from rfl, show (1 : Int).toNat = 1 from rfl, show (2 : Int).toNat = 2 from rfl, show (3 : Int).toNat = 3 from rfl, show (4 : Int).toNat = 4 from rfl, show (5 : Int).toNat = 5 from rfl, show (6 : Int).toNat = 6 from rfl, show (7 : Int).toNat = 7 from rfl, show (8 : Int).toNat = 8 from rfl, show (9 : Int).toNat = 9 from rfl, show (10 : Int).toNat = 10 from rfl, show (11 : Int).toNat = 11 from rfl, show (12 : Int).toNat = 12 from rfl, show (13 : Int).toNat = 13 from rfl, show (14 : Int).toNat = 14 from rfl, Int.toNat_natCast] at r80 ⊢
        refine xs_aload_0 eX8_layLine_83 ?_
        refine xs_iload_1 eX8_layLine_84 ?_
        refine xa_iconst eX8_layLine_85 ?_
        refine xbi_V20 (mi' := mX8_told0) (y := yX8_told0) eX8_layLine_86 (xw_5 lRX8_122 wy_X8_told0) rfl ⟨wd_X8_told0, by decide, by decide⟩ (by decide) (fun _ => rfl) rfl (Nat.le_of_ble_eq_true rfl) rfl (k_X8_told0 (p := i) (g := 5) rfl rfl (by omega) (by decide) ?_)
        try simp (decide := true) only [up_app, if_false, false_and, and_false, if_true, and_true, true_and, eL, t0, t2, t3, t4, t5, show (0 : Int).toNat = 0 from rfl, show (1 : Int).toNat = 1 from rfl, show (2 : Int).toNat = 2 from rfl, show (3 : Int).toNat = 3 from rfl, show (4 : Int).toNat = 4 from rfl, show (5 : Int).toNat = 5 from rfl, show (6 : Int).toNat = 6 from rfl, show (7 : Int).toNat = 7 from rfl, show (8 : Int).toNat = 8 from rfl, show (9 : Int).toNat = 9 from rfl, show (10 : Int).toNat = 10 from rfl, show (11 : Int).toNat = 11 from rfl, show (12 : Int).toNat = 12 from rfl, show (13 : Int).toNat = 13 from rfl, show (14 : Int).toNat = 14 from rfl, Int.toNat_natCast]
        refine pa_38 eX8_layLine_89 (by omega) (by omega) ?_
        refine xs_aload_0 eX8_layLine_90 ?_
        refine g_X8_9 eX8_layLine_91 lRX8_36 ?_
        refine xs_aload_0 eX8_layLine_94 ?_
        refine gr_X8_11 eX8_layLine_95 lRX8_140 (fun r95 => ?_)
        try simp (decide := true) only [up_app, if_false, false_and, and_false, if_true, and_true, true_and, eL, h2, show (0 : Int).toNat = 0 from rfl, show (1 : Int).toNat = 1 from rfl, show (2 : Int).toNat = 2 from rfl, show (3 : Int).toNat = 3 from rfl, show (4 : Int).toNat = 4 from rfl, show (5 : Int).toNat = 5 from rfl, show (6 : Int).toNat = 6 from rfl, show (7 : Int).toNat = 7 from rfl, show (8 : Int).toNat = 8 from rfl, show (9 : Int).toNat = 9 from rfl, show (10 : Int).toNat = 10 from rfl, show (11 : Int).toNat = 11 from rfl, show (12 : Int).toNat = 12 from rfl, show (13 : Int).toNat = 13 from rfl, show (14 : Int).toNat = 14 from rfl, Int.toNat_natCast] at r95 ⊢
        refine xs_aload_0 eX8_layLine_98 ?_
        refine xs_iload_1 eX8_layLine_99 ?_
        refine xbi_V10 (mi' := mX8_hasJob) (y := yX8_hasJob) eX8_layLine_100 (xw_5 lRX8_143 wy_X8_hasJob) rfl ⟨wd_X8_hasJob, by decide, by decide⟩ (by decide) (fun _ => rfl) rfl (Nat.le_of_ble_eq_true rfl) rfl (k_X8_hasJob (j := i) rfl (by omega) (by (try simp (decide := true) only [up_app, if_false, false_and, and_false, if_true, and_true, true_and, eL, t0, t2, t3, t4, t5, show (0 : Int).toNat = 0 from rfl, show (1 : Int).toNat = 1 from rfl, show (2 : Int).toNat = 2 from rfl, show (3 : Int).toNat = 3 from rfl, show (4 : Int).toNat = 4 from rfl, show (5 : Int).toNat = 5 from rfl, show (6 : Int).toNat = 6 from rfl, show (7 : Int).toNat = 7 from rfl, show (8 : Int).toNat = 8 from rfl, show (9 : Int).toNat = 9 from rfl, show (10 : Int).toNat = 10 from rfl, show (11 : Int).toNat = 11 from rfl, show (12 : Int).toNat = 12 from rfl, show (13 : Int).toNat = 13 from rfl, show (14 : Int).toNat = 14 from rfl, Int.toNat_natCast]); omega) (by (try simp (decide := true) only [up_app, if_false, false_and, and_false, if_true, and_true, true_and, eL, t0, t2, t3, t4, t5, show (0 : Int).toNat = 0 from rfl, show (1 : Int).toNat = 1 from rfl, show (2 : Int).toNat = 2 from rfl, show (3 : Int).toNat = 3 from rfl, show (4 : Int).toNat = 4 from rfl, show (5 : Int).toNat = 5 from rfl, show (6 : Int).toNat = 6 from rfl, show (7 : Int).toNat = 7 from rfl, show (8 : Int).toNat = 8 from rfl, show (9 : Int).toNat = 9 from rfl, show (10 : Int).toNat = 10 from rfl, show (11 : Int).toNat = 11 from rfl, show (12 : Int).toNat = 12 from rfl, show (13 : Int).toNat = 13 from rfl, show (14 : Int).toNat = 14 from rfl, Int.toNat_natCast]); omega) ?_)
        try simp (decide := true) only [up_app, if_false, false_and, and_false, if_true, and_true, true_and, eL, t0, t2, t3, t4, t5, show (0 : Int).toNat = 0 from rfl, show (1 : Int).toNat = 1 from rfl, show (2 : Int).toNat = 2 from rfl, show (3 : Int).toNat = 3 from rfl, show (4 : Int).toNat = 4 from rfl, show (5 : Int).toNat = 5 from rfl, show (6 : Int).toNat = 6 from rfl, show (7 : Int).toNat = 7 from rfl, show (8 : Int).toNat = 8 from rfl, show (9 : Int).toNat = 9 from rfl, show (10 : Int).toNat = 10 from rfl, show (11 : Int).toNat = 11 from rfl, show (12 : Int).toNat = 12 from rfl, show (13 : Int).toNat = 13 from rfl, show (14 : Int).toNat = 14 from rfl, Int.toNat_natCast]
        refine xa_ifb_eq (tgt := 116) eX8_layLine_103 (by decide) (fun c103 => ?_) (fun c103 => ?_)
        · refine xa_iconst eX8_layLine_116 ?_
          refine pa_39 eX8_layLine_117 (by omega) (by omega) ?_
          refine xs_aload_0 eX8_layLine_118 ?_
          refine g_X8_10 eX8_layLine_119 lRX8_39 ?_
          refine xs_aload_0 eX8_layLine_122 ?_
          refine gr_X8_11 eX8_layLine_123 lRX8_140 (fun r123 => ?_)
          try simp (decide := true) only [up_app, if_false, false_and, and_false, if_true, and_true, true_and, eL, h2, show (0 : Int).toNat = 0 from rfl, show (1 : Int).toNat = 1 from rfl, show (2 : Int).toNat = 2 from rfl, show (3 : Int).toNat = 3 from rfl, show (4 : Int).toNat = 4 from rfl, show (5 : Int).toNat = 5 from rfl, show (6 : Int).toNat = 6 from rfl, show (7 : Int).toNat = 7 from rfl, show (8 : Int).toNat = 8 from rfl, show (9 : Int).toNat = 9 from rfl, show (10 : Int).toNat = 10 from rfl, show (11 : Int).toNat = 11 from rfl, show (12 : Int).toNat = 12 from rfl, show (13 : Int).toNat = 13 from rfl, show (14 : Int).toNat = 14 from rfl, Int.toNat_natCast] at r123 ⊢
          refine xs_aload_0 eX8_layLine_126 ?_
          refine xs_iload_1 eX8_layLine_127 ?_
          refine xa_bipush eX8_layLine_128 (by decide) ?_
          refine xbi_V20 (mi' := mX8_told0) (y := yX8_told0) eX8_layLine_130 (xw_5 lRX8_122 wy_X8_told0) rfl ⟨wd_X8_told0, by decide, by decide⟩ (by decide) (fun _ => rfl) rfl (Nat.le_of_ble_eq_true rfl) rfl (k_X8_told0 (p := i) (g := 7) rfl rfl (by omega) (by decide) ?_)
          try simp (decide := true) only [up_app, if_false, false_and, and_false, if_true, and_true, true_and, eL, t0, t2, t3, t4, t5, show (0 : Int).toNat = 0 from rfl, show (1 : Int).toNat = 1 from rfl, show (2 : Int).toNat = 2 from rfl, show (3 : Int).toNat = 3 from rfl, show (4 : Int).toNat = 4 from rfl, show (5 : Int).toNat = 5 from rfl, show (6 : Int).toNat = 6 from rfl, show (7 : Int).toNat = 7 from rfl, show (8 : Int).toNat = 8 from rfl, show (9 : Int).toNat = 9 from rfl, show (10 : Int).toNat = 10 from rfl, show (11 : Int).toNat = 11 from rfl, show (12 : Int).toNat = 12 from rfl, show (13 : Int).toNat = 13 from rfl, show (14 : Int).toNat = 14 from rfl, Int.toNat_natCast]
          refine pa_40 eX8_layLine_133 (by omega) (by omega) ?_
          refine xs_aload_0 eX8_layLine_134 ?_
          refine xa_dup eX8_layLine_135 rfl ?_
          refine gr_X8_11 eX8_layLine_136 lRX8_140 (fun r136 => ?_)
          try simp (decide := true) only [up_app, if_false, false_and, and_false, if_true, and_true, true_and, eL, h2, show (0 : Int).toNat = 0 from rfl, show (1 : Int).toNat = 1 from rfl, show (2 : Int).toNat = 2 from rfl, show (3 : Int).toNat = 3 from rfl, show (4 : Int).toNat = 4 from rfl, show (5 : Int).toNat = 5 from rfl, show (6 : Int).toNat = 6 from rfl, show (7 : Int).toNat = 7 from rfl, show (8 : Int).toNat = 8 from rfl, show (9 : Int).toNat = 9 from rfl, show (10 : Int).toNat = 10 from rfl, show (11 : Int).toNat = 11 from rfl, show (12 : Int).toNat = 12 from rfl, show (13 : Int).toNat = 13 from rfl, show (14 : Int).toNat = 14 from rfl, Int.toNat_natCast] at r136 ⊢
          refine xa_iconst eX8_layLine_139 ?_
          refine xa_iadd eX8_layLine_140 ?_
          refine p_X8_11 eX8_layLine_141 lRX8_140 (by omega) ?_
          refine xs_iinc_1 eX8_layLine_144 rfl ?_
          refine xa_goto (tgt := 7) eX8_layLine_147 (by decide) ?_
          try simp (decide := true) only [up_app, if_false, false_and, and_false, if_true, and_true, true_and, eL, t0, t2, t3, t4, t5, show (0 : Int).toNat = 0 from rfl, show (1 : Int).toNat = 1 from rfl, show (2 : Int).toNat = 2 from rfl, show (3 : Int).toNat = 3 from rfl, show (4 : Int).toNat = 4 from rfl, show (5 : Int).toNat = 5 from rfl, show (6 : Int).toNat = 6 from rfl, show (7 : Int).toNat = 7 from rfl, show (8 : Int).toNat = 8 from rfl, show (9 : Int).toNat = 9 from rfl, show (10 : Int).toNat = 10 from rfl, show (11 : Int).toNat = 11 from rfl, show (12 : Int).toNat = 12 from rfl, show (13 : Int).toNat = 13 from rfl, show (14 : Int).toNat = 14 from rfl, Int.toNat_natCast]
          exact ih (i + 1) (by omega) (by omega) _ (hI.lay (by omega) rfl rfl rfl rfl (by omega) (fun z => by omega)) (lnf.up30 (lnf.upk (lnf.upk (lnf.upk (lnf.upk (lnf.upk (lnf.upk hx (by decide)) (by decide)) (by decide)) (by decide)) (by decide)) (by decide)) (Or.inl rfl))
        · refine xs_aload_0 eX8_layLine_106 ?_
          refine xs_iload_1 eX8_layLine_107 ?_
          refine xa_bipush eX8_layLine_108 (by decide) ?_
          refine xbi_V20 (mi' := mX8_told0) (y := yX8_told0) eX8_layLine_110 (xw_5 lRX8_122 wy_X8_told0) rfl ⟨wd_X8_told0, by decide, by decide⟩ (by decide) (fun _ => rfl) rfl (Nat.le_of_ble_eq_true rfl) rfl (k_X8_told0 (p := i) (g := 6) rfl rfl (by omega) (by decide) ?_)
          try simp (decide := true) only [up_app, if_false, false_and, and_false, if_true, and_true, true_and, eL, t0, t2, t3, t4, t5, show (0 : Int).toNat = 0 from rfl, show (1 : Int).toNat = 1 from rfl, show (2 : Int).toNat = 2 from rfl, show (3 : Int).toNat = 3 from rfl, show (4 : Int).toNat = 4 from rfl, show (5 : Int).toNat = 5 from rfl, show (6 : Int).toNat = 6 from rfl, show (7 : Int).toNat = 7 from rfl, show (8 : Int).toNat = 8 from rfl, show (9 : Int).toNat = 9 from rfl, show (10 : Int).toNat = 10 from rfl, show (11 : Int).toNat = 11 from rfl, show (12 : Int).toNat = 12 from rfl, show (13 : Int).toNat = 13 from rfl, show (14 : Int).toNat = 14 from rfl, Int.toNat_natCast]
          refine xa_goto (tgt := 117) eX8_layLine_113 (by decide) ?_
          refine pa_39 eX8_layLine_117 (by omega) (by omega) ?_
          refine xs_aload_0 eX8_layLine_118 ?_
          refine g_X8_10 eX8_layLine_119 lRX8_39 ?_
          refine xs_aload_0 eX8_layLine_122 ?_
          refine gr_X8_11 eX8_layLine_123 lRX8_140 (fun r123 => ?_)
          try simp (decide := true) only [up_app, if_false, false_and, and_false, if_true, and_true, true_and, eL, h2, show (0 : Int).toNat = 0 from rfl, show (1 : Int).toNat = 1 from rfl, show (2 : Int).toNat = 2 from rfl, show (3 : Int).toNat = 3 from rfl, show (4 : Int).toNat = 4 from rfl, show (5 : Int).toNat = 5 from rfl, show (6 : Int).toNat = 6 from rfl, show (7 : Int).toNat = 7 from rfl, show (8 : Int).toNat = 8 from rfl, show (9 : Int).toNat = 9 from rfl, show (10 : Int).toNat = 10 from rfl, show (11 : Int).toNat = 11 from rfl, show (12 : Int).toNat = 12 from rfl, show (13 : Int).toNat = 13 from rfl, show (14 : Int).toNat = 14 from rfl, Int.toNat_natCast] at r123 ⊢
          refine xs_aload_0 eX8_layLine_126 ?_
          refine xs_iload_1 eX8_layLine_127 ?_
          refine xa_bipush eX8_layLine_128 (by decide) ?_
          refine xbi_V20 (mi' := mX8_told0) (y := yX8_told0) eX8_layLine_130 (xw_5 lRX8_122 wy_X8_told0) rfl ⟨wd_X8_told0, by decide, by decide⟩ (by decide) (fun _ => rfl) rfl (Nat.le_of_ble_eq_true rfl) rfl (k_X8_told0 (p := i) (g := 7) rfl rfl (by omega) (by decide) ?_)
          try simp (decide := true) only [up_app, if_false, false_and, and_false, if_true, and_true, true_and, eL, t0, t2, t3, t4, t5, show (0 : Int).toNat = 0 from rfl, show (1 : Int).toNat = 1 from rfl, show (2 : Int).toNat = 2 from rfl, show (3 : Int).toNat = 3 from rfl, show (4 : Int).toNat = 4 from rfl, show (5 : Int).toNat = 5 from rfl, show (6 : Int).toNat = 6 from rfl, show (7 : Int).toNat = 7 from rfl, show (8 : Int).toNat = 8 from rfl, show (9 : Int).toNat = 9 from rfl, show (10 : Int).toNat = 10 from rfl, show (11 : Int).toNat = 11 from rfl, show (12 : Int).toNat = 12 from rfl, show (13 : Int).toNat = 13 from rfl, show (14 : Int).toNat = 14 from rfl, Int.toNat_natCast]
          refine pa_40 eX8_layLine_133 (by omega) (by omega) ?_
          refine xs_aload_0 eX8_layLine_134 ?_
          refine xa_dup eX8_layLine_135 rfl ?_
          refine gr_X8_11 eX8_layLine_136 lRX8_140 (fun r136 => ?_)
          try simp (decide := true) only [up_app, if_false, false_and, and_false, if_true, and_true, true_and, eL, h2, show (0 : Int).toNat = 0 from rfl, show (1 : Int).toNat = 1 from rfl, show (2 : Int).toNat = 2 from rfl, show (3 : Int).toNat = 3 from rfl, show (4 : Int).toNat = 4 from rfl, show (5 : Int).toNat = 5 from rfl, show (6 : Int).toNat = 6 from rfl, show (7 : Int).toNat = 7 from rfl, show (8 : Int).toNat = 8 from rfl, show (9 : Int).toNat = 9 from rfl, show (10 : Int).toNat = 10 from rfl, show (11 : Int).toNat = 11 from rfl, show (12 : Int).toNat = 12 from rfl, show (13 : Int).toNat = 13 from rfl, show (14 : Int).toNat = 14 from rfl, Int.toNat_natCast] at r136 ⊢
          refine xa_iconst eX8_layLine_139 ?_
          refine xa_iadd eX8_layLine_140 ?_
          refine p_X8_11 eX8_layLine_141 lRX8_140 (by omega) ?_
          refine xs_iinc_1 eX8_layLine_144 rfl ?_
          refine xa_goto (tgt := 7) eX8_layLine_147 (by decide) ?_
          try simp (decide := true) only [up_app, if_false, false_and, and_false, if_true, and_true, true_and, eL, t0, t2, t3, t4, t5, show (0 : Int).toNat = 0 from rfl, show (1 : Int).toNat = 1 from rfl, show (2 : Int).toNat = 2 from rfl, show (3 : Int).toNat = 3 from rfl, show (4 : Int).toNat = 4 from rfl, show (5 : Int).toNat = 5 from rfl, show (6 : Int).toNat = 6 from rfl, show (7 : Int).toNat = 7 from rfl, show (8 : Int).toNat = 8 from rfl, show (9 : Int).toNat = 9 from rfl, show (10 : Int).toNat = 10 from rfl, show (11 : Int).toNat = 11 from rfl, show (12 : Int).toNat = 12 from rfl, show (13 : Int).toNat = 13 from rfl, show (14 : Int).toNat = 14 from rfl, Int.toNat_natCast]
          exact ih (i + 1) (by omega) (by omega) _ (hI.lay (by omega) rfl rfl rfl rfl (by omega) (fun z => by omega)) (lnf.up30 (lnf.upk (lnf.upk (lnf.upk (lnf.upk (lnf.upk (lnf.upk hx (by decide)) (by decide)) (by decide)) (by decide)) (by decide)) (by decide)) (Or.inl rfl))
      · refine xa_goto (tgt := 144) eX8_layLine_27 (by decide) ?_
        refine xs_iinc_1 eX8_layLine_144 rfl ?_
        refine xa_goto (tgt := 7) eX8_layLine_147 (by decide) ?_
        exact ih (i + 1) (by omega) (by omega) S1 (hI.skip (by omega) (by omega)) hx
  refine xs_aload_0 eX8_layLine_0 ?_
  refine xa_iconst eX8_layLine_1 ?_
  refine p_X8_11 eX8_layLine_2 lRX8_140 (by omega) ?_
  refine xa_iconst eX8_layLine_5 ?_
  refine xs_istore_1 eX8_layLine_6 rfl ?_
  exact lp 0 (by omega) _ RLn.zero (lnf.up30 lnf.rf (Or.inl rfl))
set_option maxHeartbeats 400000 in
theorem f_X8_layWish {w : xW} {S : xS} {B : String → xS → Prop} {A : xS → Prop} {L : Nat} {p b d t : Int} (eL : S 30 0 11 = (L : Int)) (hL : L ≤ 20) (eM : S 31 0 0 = t) (hp : xr p) (hb : xr b) (hd : xr d) (ht : xr t) (hq : A (up (up (up (up (up (up (up S 35 0 L p) 36 0 L b) 37 0 L d) 38 0 L t) 39 0 L 0) 40 0 L 0) 30 0 11 ((L : Int) + 1))) : Kv w mX8_layWish yX8_layWish 0 0 [xp 30 0, xi p, xi b, xi d] S A B := by
  refine K.of rfl rfl rfl rfl (Nat.le_of_ble_eq_true rfl) rfl ?_
  refine xs_aload_0 eX8_layWish_0 ?_
  refine g_X8_5 eX8_layWish_1 lRX8_23 ?_
  refine xs_aload_0 eX8_layWish_4 ?_
  refine gr_X8_11 eX8_layWish_5 lRX8_140 (fun r5 => ?_)
  try simp (decide := true) only [up_app, if_false, false_and, and_false, if_true, and_true, true_and, eL, show (0 : Int).toNat = 0 from rfl, show (1 : Int).toNat = 1 from rfl, show (2 : Int).toNat = 2 from rfl, show (3 : Int).toNat = 3 from rfl, show (4 : Int).toNat = 4 from rfl, show (5 : Int).toNat = 5 from rfl, show (6 : Int).toNat = 6 from rfl, show (7 : Int).toNat = 7 from rfl, show (8 : Int).toNat = 8 from rfl, show (9 : Int).toNat = 9 from rfl, show (10 : Int).toNat = 10 from rfl, show (11 : Int).toNat = 11 from rfl, show (12 : Int).toNat = 12 from rfl, show (13 : Int).toNat = 13 from rfl, show (14 : Int).toNat = 14 from rfl, Int.toNat_natCast] at r5 ⊢
  refine xs_iload_1 eX8_layWish_8 ?_
  refine pa_35 eX8_layWish_9 (by omega) (by omega) ?_
  refine xs_aload_0 eX8_layWish_10 ?_
  refine g_X8_6 eX8_layWish_11 lRX8_27 ?_
  refine xs_aload_0 eX8_layWish_14 ?_
  refine gr_X8_11 eX8_layWish_15 lRX8_140 (fun r15 => ?_)
  try simp (decide := true) only [up_app, if_false, false_and, and_false, if_true, and_true, true_and, eL, show (0 : Int).toNat = 0 from rfl, show (1 : Int).toNat = 1 from rfl, show (2 : Int).toNat = 2 from rfl, show (3 : Int).toNat = 3 from rfl, show (4 : Int).toNat = 4 from rfl, show (5 : Int).toNat = 5 from rfl, show (6 : Int).toNat = 6 from rfl, show (7 : Int).toNat = 7 from rfl, show (8 : Int).toNat = 8 from rfl, show (9 : Int).toNat = 9 from rfl, show (10 : Int).toNat = 10 from rfl, show (11 : Int).toNat = 11 from rfl, show (12 : Int).toNat = 12 from rfl, show (13 : Int).toNat = 13 from rfl, show (14 : Int).toNat = 14 from rfl, Int.toNat_natCast] at r15 ⊢
  refine xs_iload_2 eX8_layWish_18 ?_
  refine pa_36 eX8_layWish_19 (by omega) (by omega) ?_
  refine xs_aload_0 eX8_layWish_20 ?_
  refine g_X8_7 eX8_layWish_21 lRX8_30 ?_
  refine xs_aload_0 eX8_layWish_24 ?_
  refine gr_X8_11 eX8_layWish_25 lRX8_140 (fun r25 => ?_)
  try simp (decide := true) only [up_app, if_false, false_and, and_false, if_true, and_true, true_and, eL, show (0 : Int).toNat = 0 from rfl, show (1 : Int).toNat = 1 from rfl, show (2 : Int).toNat = 2 from rfl, show (3 : Int).toNat = 3 from rfl, show (4 : Int).toNat = 4 from rfl, show (5 : Int).toNat = 5 from rfl, show (6 : Int).toNat = 6 from rfl, show (7 : Int).toNat = 7 from rfl, show (8 : Int).toNat = 8 from rfl, show (9 : Int).toNat = 9 from rfl, show (10 : Int).toNat = 10 from rfl, show (11 : Int).toNat = 11 from rfl, show (12 : Int).toNat = 12 from rfl, show (13 : Int).toNat = 13 from rfl, show (14 : Int).toNat = 14 from rfl, Int.toNat_natCast] at r25 ⊢
  refine xs_iload_3 eX8_layWish_28 ?_
  refine pa_37 eX8_layWish_29 (by omega) (by omega) ?_
  refine xs_aload_0 eX8_layWish_30 ?_
  refine g_X8_8 eX8_layWish_31 lRX8_33 ?_
  refine xs_aload_0 eX8_layWish_34 ?_
  refine gr_X8_11 eX8_layWish_35 lRX8_140 (fun r35 => ?_)
  try simp (decide := true) only [up_app, if_false, false_and, and_false, if_true, and_true, true_and, eL, show (0 : Int).toNat = 0 from rfl, show (1 : Int).toNat = 1 from rfl, show (2 : Int).toNat = 2 from rfl, show (3 : Int).toNat = 3 from rfl, show (4 : Int).toNat = 4 from rfl, show (5 : Int).toNat = 5 from rfl, show (6 : Int).toNat = 6 from rfl, show (7 : Int).toNat = 7 from rfl, show (8 : Int).toNat = 8 from rfl, show (9 : Int).toNat = 9 from rfl, show (10 : Int).toNat = 10 from rfl, show (11 : Int).toNat = 11 from rfl, show (12 : Int).toNat = 12 from rfl, show (13 : Int).toNat = 13 from rfl, show (14 : Int).toNat = 14 from rfl, Int.toNat_natCast] at r35 ⊢
  refine xs_aload_0 eX8_layWish_38 ?_
  refine xa_iconst eX8_layWish_39 ?_
  refine xbi_V10 (mi' := mX8_number) (y := yX8_number) eX8_layWish_40 (xw_5 lRX8_65 wy_X8_number) rfl ⟨wd_X8_number, by decide, by decide⟩ (by decide) (fun _ => rfl) rfl (Nat.le_of_ble_eq_true rfl) rfl (k_X8_number (i := 0) rfl (by decide) ?_)
  try simp (decide := true) only [up_app, if_false, false_and, and_false, eM]
  refine pa_38 eX8_layWish_43 (by omega) (by omega) ?_
  refine xs_aload_0 eX8_layWish_44 ?_
  refine g_X8_9 eX8_layWish_45 lRX8_36 ?_
  refine xs_aload_0 eX8_layWish_48 ?_
  refine gr_X8_11 eX8_layWish_49 lRX8_140 (fun r49 => ?_)
  try simp (decide := true) only [up_app, if_false, false_and, and_false, if_true, and_true, true_and, eL, show (0 : Int).toNat = 0 from rfl, show (1 : Int).toNat = 1 from rfl, show (2 : Int).toNat = 2 from rfl, show (3 : Int).toNat = 3 from rfl, show (4 : Int).toNat = 4 from rfl, show (5 : Int).toNat = 5 from rfl, show (6 : Int).toNat = 6 from rfl, show (7 : Int).toNat = 7 from rfl, show (8 : Int).toNat = 8 from rfl, show (9 : Int).toNat = 9 from rfl, show (10 : Int).toNat = 10 from rfl, show (11 : Int).toNat = 11 from rfl, show (12 : Int).toNat = 12 from rfl, show (13 : Int).toNat = 13 from rfl, show (14 : Int).toNat = 14 from rfl, Int.toNat_natCast] at r49 ⊢
  refine xa_iconst eX8_layWish_52 ?_
  refine pa_39 eX8_layWish_53 (by omega) (by omega) ?_
  refine xs_aload_0 eX8_layWish_54 ?_
  refine g_X8_10 eX8_layWish_55 lRX8_39 ?_
  refine xs_aload_0 eX8_layWish_58 ?_
  refine gr_X8_11 eX8_layWish_59 lRX8_140 (fun r59 => ?_)
  try simp (decide := true) only [up_app, if_false, false_and, and_false, if_true, and_true, true_and, eL, show (0 : Int).toNat = 0 from rfl, show (1 : Int).toNat = 1 from rfl, show (2 : Int).toNat = 2 from rfl, show (3 : Int).toNat = 3 from rfl, show (4 : Int).toNat = 4 from rfl, show (5 : Int).toNat = 5 from rfl, show (6 : Int).toNat = 6 from rfl, show (7 : Int).toNat = 7 from rfl, show (8 : Int).toNat = 8 from rfl, show (9 : Int).toNat = 9 from rfl, show (10 : Int).toNat = 10 from rfl, show (11 : Int).toNat = 11 from rfl, show (12 : Int).toNat = 12 from rfl, show (13 : Int).toNat = 13 from rfl, show (14 : Int).toNat = 14 from rfl, Int.toNat_natCast] at r59 ⊢
  refine xa_iconst eX8_layWish_62 ?_
  refine pa_40 eX8_layWish_63 (by omega) (by omega) ?_
  refine xs_aload_0 eX8_layWish_64 ?_
  refine xa_dup eX8_layWish_65 rfl ?_
  refine gr_X8_11 eX8_layWish_66 lRX8_140 (fun r66 => ?_)
  try simp (decide := true) only [up_app, if_false, false_and, and_false, if_true, and_true, true_and, eL, show (0 : Int).toNat = 0 from rfl, show (1 : Int).toNat = 1 from rfl, show (2 : Int).toNat = 2 from rfl, show (3 : Int).toNat = 3 from rfl, show (4 : Int).toNat = 4 from rfl, show (5 : Int).toNat = 5 from rfl, show (6 : Int).toNat = 6 from rfl, show (7 : Int).toNat = 7 from rfl, show (8 : Int).toNat = 8 from rfl, show (9 : Int).toNat = 9 from rfl, show (10 : Int).toNat = 10 from rfl, show (11 : Int).toNat = 11 from rfl, show (12 : Int).toNat = 12 from rfl, show (13 : Int).toNat = 13 from rfl, show (14 : Int).toNat = 14 from rfl, Int.toNat_natCast] at r66 ⊢
  refine xa_iconst eX8_layWish_69 ?_
  refine xa_iadd eX8_layWish_70 ?_
  refine p_X8_11 eX8_layWish_71 lRX8_140 (by omega) ?_
  exact xa_vret eX8_layWish_74 rfl ⟨rfl, by (try simp (decide := true) only [Int.toNat_natCast]); exact hq⟩
theorem cyc_add {s u n N : Nat} {T p b d : Int} {C : xS} (hp : 1 ≤ p) (hV : VT s N T C) : cycT u (N + 1) (addT u N (-1) p b d (cpyT s u N C)) = sm (fun j => if C 10 (32 * s + j) 0 = 0 then xtic (C 10 (32 * s + j)) else 0) N + b * Int.tdiv 120 p := by
  have er : ∀ j, j < N → addT u N (-1) p b d (cpyT s u N C) 10 (32 * u + j) = C 10 (32 * s + j) := fun j hj => by
    funext f
    unfold addT
    rw [if_neg (by omega), if_neg (by omega)]
    unfold cpyT
    rw [if_neg (by omega), if_neg (by omega), if_pos ⟨rfl, by omega, by omega⟩, Nat.add_sub_cancel_left]
  have eN : addT u N (-1) p b d (cpyT s u N C) 10 (32 * u + N) = xbeg (-1) p b d (cpyT s u N C 2 u 2) := by
    funext f
    unfold addT
    rw [if_neg (by omega), if_pos ⟨rfl, rfl⟩]
  unfold cycT
  rw [sm_s, eN]
  have e1 : sm (fun j => if addT u N (-1) p b d (cpyT s u N C) 10 (32 * u + j) 0 = 0 then xtic (addT u N (-1) p b d (cpyT s u N C) 10 (32 * u + j)) else 0) N = sm (fun j => if C 10 (32 * s + j) 0 = 0 then xtic (C 10 (32 * s + j)) else 0) N := sm_congr (fun j hj => by rw [er j hj])
  rw [e1]
  congr 1
  show (if (0 : Int) = 0 then (if p < 1 then 0 else b * Int.tdiv 120 p) else 0) = _
  rw [if_pos rfl, if_neg (by omega)]
theorem RLn.wish {s u N : Nat} {p b d : Int} {C S : xS} (h : RLn s N C S) : RLn u (N + 1) (addT u N (-1) p b d (cpyT s u N C)) (up (up (up (up (up (up (up S 35 0 (lvc s C N) p) 36 0 (lvc s C N) b) 37 0 (lvc s C N) d) 38 0 (lvc s C N) (C 2 s 2)) 39 0 (lvc s C N) 0) 40 0 (lvc s C N) 0) 30 0 11 ((lvc s C N : Int) + 1)) := by
  have er : ∀ j, j < N → addT u N (-1) p b d (cpyT s u N C) 10 (32 * u + j) = C 10 (32 * s + j) := fun j hj => by
    funext f
    unfold addT
    rw [if_neg (by omega), if_neg (by omega)]
    unfold cpyT
    rw [if_neg (by omega), if_neg (by omega), if_pos ⟨rfl, by omega, by omega⟩, Nat.add_sub_cancel_left]
  have eN : addT u N (-1) p b d (cpyT s u N C) 10 (32 * u + N) = xbeg (-1) p b d (C 2 s 2) := by
    funext f
    unfold addT
    rw [if_neg (by omega), if_pos ⟨rfl, rfl⟩]
    unfold cpyT
    rw [if_neg (by omega), if_pos ⟨rfl, rfl, rfl⟩]
  have h2 := h.congr (v := u) er
  have el : lvc u (addT u N (-1) p b d (cpyT s u N C)) N = lvc s C N := lvc_congr (fun j hj => by rw [er j hj])
  rw [← el]
  exact h2.lay (by rw [eN]; rfl) (by rw [eN]; rfl) (by rw [eN]; rfl) (by rw [eN]; rfl) (by rw [eN]; rfl) (by rw [eN]; rfl) (fun z => by rw [eN] at z; exact absurd z (by show ¬ (0 : Int) < 0; decide))
set_option maxHeartbeats 400000 in
theorem f_X8_accepts {w : xW} {S : xS} {B : String → xS → Prop} {A : Int → xS → Prop} {s u n N : Nat} {p b d T : Int} {C : xS} (hV : VS s n N T C) (hT : T ≤ 900000) (hR : Rel s n N C (S 31 0)) (hp : 1 ≤ p ∧ p ≤ 120) (hb : 1 ≤ b ∧ b ≤ 120) (hd : 1 ≤ d ∧ d ≤ 120) (hq : ∀ S', lnf S' S → A (b2i (accF s u N p b d C = true)) S') : Ki w mX8_accepts yX8_accepts 0 0 [xp 30 0, xi p, xi b, xi d] S A B := by
  refine K.of rfl rfl rfl rfl (Nat.le_of_ble_eq_true rfl) rfl ?_
  have hN20 := hV.2.1
  have ht := hV.1.2.2.1
  have htic := xtic_r (F := fun f => if f = 2 then p else b) (by simp (decide := true) only [if_true]; omega) (by simp (decide := true) only [if_false]; omega)
  have ew : b * Int.tdiv 120 p = xtic (fun f => if f = 2 then p else b) := by unfold xtic; simp (decide := true) only [if_true, if_false]; rw [if_neg (by omega)]
  rw [← ew] at htic
  have hsm : ∀ i, i ≤ N → 0 ≤ sm (fun j => if C 10 (32 * s + j) 0 = 0 then xtic (C 10 (32 * s + j)) else 0) i ∧ sm (fun j => if C 10 (32 * s + j) 0 = 0 then xtic (C 10 (32 * s + j)) else 0) i ≤ 14400 * i := fun i hi => by
    have h9 := sm_range (g := fun j => if C 10 (32 * s + j) 0 = 0 then xtic (C 10 (32 * s + j)) else 0) (lo := 0) (hi := 14400) (n := i) (fun j hj => by
      have h5 := hV.t (j := j) (by omega)
      unfold TQ at h5
      have h6 := xtic_r (F := C 10 (32 * s + j)) (by omega) (by omega)
      by_cases c : C 10 (32 * s + j) 0 = 0
      · rw [if_pos c]; exact h6
      · rw [if_neg c]; decide)
    omega
  have hcyc := cyc_add (s := s) (u := u) (n := n) (N := N) (T := T) (p := p) (b := b) (d := d) (C := C) hp.1 hV.1
  have h2 : S 31 0 2 = (N : Int) := by rw [hR.1 2 (by decide)]; exact hV.1.1
  have et : addT u N (-1) p b d (cpyT s u N C) 2 u 2 = C 2 s 2 := by unfold addT; rw [if_neg (by omega), if_neg (by omega)]; unfold cpyT; rw [if_neg (by omega), if_pos ⟨rfl, rfl, rfl⟩]
  have eM1 : ∀ S1, lnf S1 S → S1 31 0 0 = C 2 s 2 := fun S1 hx => by rw [hx.1 31 0 (Or.inl (by decide)) (by decide)]; exact hR.1 0 (by decide)
  have lp : ∀ i : Nat, i ≤ N →  X w mX8_accepts (xTG w (fun v S' => ∃ a, v = some (xi a) ∧ A a S') B) 0 0 11 [xp 30 0, xi p, xi b, xi d, xi (b * Int.tdiv 120 p + sm (fun j => if C 10 (32 * s + j) 0 = 0 then xtic (C 10 (32 * s + j)) else 0) i), xi (i : Int)] [] S := by
    refine nloop (N) (fun i hi ih  => ?_)
    have hsi := hsm i hi
    refine xs_iload_5 eX8_accepts_11 ?_
    refine xa_i2l eX8_accepts_13 (by omega) ?_
    refine xs_aload_0 eX8_accepts_14 ?_
    refine g_X8_0 eX8_accepts_15 lRX8_7 ?_
    refine xa_iconst eX8_accepts_18 ?_
    refine gar_31 eX8_accepts_19 (by decide) (fun r19 => ?_)
    try simp (decide := true) only [h2, show (0 : Int).toNat = 0 from rfl, show (1 : Int).toNat = 1 from rfl, show (2 : Int).toNat = 2 from rfl, show (3 : Int).toNat = 3 from rfl, show (4 : Int).toNat = 4 from rfl, show (5 : Int).toNat = 5 from rfl, show (6 : Int).toNat = 6 from rfl, show (7 : Int).toNat = 7 from rfl, show (8 : Int).toNat = 8 from rfl, show (9 : Int).toNat = 9 from rfl, show (10 : Int).toNat = 10 from rfl, show (11 : Int).toNat = 11 from rfl, show (12 : Int).toNat = 12 from rfl, show (13 : Int).toNat = 13 from rfl, show (14 : Int).toNat = 14 from rfl, Int.toNat_natCast] at r19 ⊢
    refine xa_lcmp eX8_accepts_20 (by omega) (by omega) ?_
    refine xa_ifc_ge (tgt := 66) eX8_accepts_21 (by decide) (fun c21 => ?_) (fun c21 => ?_)
    · refine xs_iload_4 eX8_accepts_66 ?_
      refine xa_bipush eX8_accepts_68 (by decide) ?_
      refine xa_icmp_le (tgt := 75) eX8_accepts_70 (by decide) (by have := hsm i hi; omega) (by decide) (fun c70 => ?_) (fun c70 => ?_)
      · refine xs_aload_0 eX8_accepts_75 ?_
        refine xbv_V00 (mi' := mX8_layLine) (y := yX8_layLine) eX8_accepts_76 (xw_5 lRX8_157 wy_X8_layLine) rfl ⟨wd_X8_layLine, by decide, by decide⟩ (by decide) (fun _ => rfl) rfl (Nat.le_of_ble_eq_true rfl) rfl (f_X8_layLine hV (by omega) hR (fun S1 hx1 hR1 => ?_))
        refine xs_aload_0 eX8_accepts_79 ?_
        refine xs_iload_1 eX8_accepts_80 ?_
        refine xs_iload_2 eX8_accepts_81 ?_
        refine xs_iload_3 eX8_accepts_82 ?_
        refine xbv_V30 (mi' := mX8_layWish) (y := yX8_layWish) eX8_accepts_83 (xw_5 lRX8_160 wy_X8_layWish) rfl ⟨wd_X8_layWish, by decide, by decide⟩ (by decide) (fun _ => rfl) rfl (Nat.le_of_ble_eq_true rfl) rfl (f_X8_layWish hR1.1 (by have := lvc_le s C N; omega) (eM1 S1 hx1) (by omega) (by omega) (by omega) (by omega) ?_)
        refine xs_aload_0 eX8_accepts_86 ?_
        refine xbi_V00 (mi' := mX8_runsWell) (y := yX8_runsWell) eX8_accepts_87 (xw_5 lRX8_163 wy_X8_runsWell) rfl ⟨wd_X8_runsWell, by decide, by decide⟩ (by decide) (fun _ => rfl) rfl (Nat.le_of_ble_eq_true rfl) rfl (f_X8_runsWell (u := u) ((hV.1.cpy (u := u)).add (o := -1) (by omega) hp hb hd) (by omega) hR1.wish (by rw [up_k (by decide), up_k (by decide), up_k (by decide), up_k (by decide), up_k (by decide), up_k (by decide), up_k (by decide), eM1 S1 hx1, et]) (fun S2 hx2 _ => ?_))
        exact xa_zret eX8_accepts_90 rfl (by exact b2i_01 _) ⟨_, rfl, by have h9 := hq S2 (hx2.tr (lnf.up30 (lnf.upk (lnf.upk (lnf.upk (lnf.upk (lnf.upk (lnf.upk hx1 (by decide)) (by decide)) (by decide)) (by decide)) (by decide)) (by decide)) (Or.inl rfl))); unfold accF at h9; rw [decide_eq_true (by rw [hcyc]; have e : i = N := (by omega); rw [e] at c70; omega), Bool.true_and] at h9; exact h9⟩
      · refine xa_iconst eX8_accepts_73 ?_
        exact xa_zret eX8_accepts_74 rfl (by decide) ⟨_, rfl, by have h9 := hq S lnf.rf; unfold accF at h9; rw [decide_eq_false (by rw [hcyc]; have e : i = N := (by omega); rw [e] at c70; omega)] at h9; exact h9⟩
    · have hiN : i < N := by omega
      have hTi := hV.t hiN
      unfold TQ at hTi
      have t0 : S 31 0 (103 + 18 * i + 0) = C 10 (32 * s + i) 0 := hR.q hiN (by decide) (by decide) (by decide) (by decide)
      have t2 : S 31 0 (103 + 18 * i + 2) = C 10 (32 * s + i) 2 := hR.q hiN (by decide) (by decide) (by decide) (by decide)
      have t3 : S 31 0 (103 + 18 * i + 3) = C 10 (32 * s + i) 3 := hR.q hiN (by decide) (by decide) (by decide) (by decide)
      have hti := xtic_r (F := C 10 (32 * s + i)) (by omega) (by omega)
      refine xs_iload_4 eX8_accepts_24 ?_
      refine xs_aload_0 eX8_accepts_26 ?_
      refine xs_iload_5 eX8_accepts_27 ?_
      refine xbi_V10 (mi' := mX8_hasEnded) (y := yX8_hasEnded) eX8_accepts_29 (xw_5 lRX8_119 wy_X8_hasEnded) rfl ⟨wd_X8_hasEnded, by decide, by decide⟩ (by decide) (fun _ => rfl) rfl (Nat.le_of_ble_eq_true rfl) rfl (k_X8_hasEnded (j := i) rfl (by omega) (by rw [t0]; omega) ?_)
      rw [t0]
      refine xa_ifb_eq (tgt := 39) eX8_accepts_32 (by decide) (fun c32 => ?_) (fun c32 => ?_)
      · refine xs_aload_0 eX8_accepts_39 ?_
        refine xs_iload_5 eX8_accepts_40 ?_
        refine xa_iconst eX8_accepts_42 ?_
        refine xbi_V20 (mi' := mX8_told0) (y := yX8_told0) eX8_accepts_43 (xw_5 lRX8_122 wy_X8_told0) rfl ⟨wd_X8_told0, by decide, by decide⟩ (by decide) (fun _ => rfl) rfl (Nat.le_of_ble_eq_true rfl) rfl (k_X8_told0 (p := i) (g := 3) rfl rfl (by omega) (by decide) ?_)
        rw [t3]
        refine xa_bipush eX8_accepts_46 (by decide) ?_
        refine xs_aload_0 eX8_accepts_48 ?_
        refine xs_iload_5 eX8_accepts_49 ?_
        refine xa_iconst eX8_accepts_51 ?_
        refine xbi_V20 (mi' := mX8_told0) (y := yX8_told0) eX8_accepts_52 (xw_5 lRX8_122 wy_X8_told0) rfl ⟨wd_X8_told0, by decide, by decide⟩ (by decide) (fun _ => rfl) rfl (Nat.le_of_ble_eq_true rfl) rfl (k_X8_told0 (p := i) (g := 2) rfl rfl (by omega) (by decide) ?_)
        rw [t2]
        refine xa_idiv eX8_accepts_55 (by decide) (by omega) (by omega) ?_
        refine xa_imul eX8_accepts_56 ?_
        refine xa_iadd eX8_accepts_57 ?_
        refine xs_istore_4 eX8_accepts_58 rfl ?_
        refine xs_iinc_5 eX8_accepts_60 rfl ?_
        refine xa_goto (tgt := 11) eX8_accepts_63 (by decide) ?_
        have h9 := ih (i + 1) (by omega) (by omega)
        rw [sm_s, if_pos (by omega)] at h9
        rw [show xtic (C 10 (32 * s + i)) = C 10 (32 * s + i) 3 * Int.tdiv 120 (C 10 (32 * s + i) 2) from if_neg (by omega), ← Int.add_assoc] at h9
        exact h9
      · refine xa_iconst eX8_accepts_35 ?_
        refine xa_goto (tgt := 57) eX8_accepts_36 (by decide) ?_
        refine xa_iadd eX8_accepts_57 ?_
        refine xs_istore_4 eX8_accepts_58 rfl ?_
        refine xs_iinc_5 eX8_accepts_60 rfl ?_
        refine xa_goto (tgt := 11) eX8_accepts_63 (by decide) ?_
        have h9 := ih (i + 1) (by omega) (by omega)
        rw [sm_s, if_neg (by omega), ← Int.add_assoc] at h9
        exact h9
  refine xs_iload_2 eX8_accepts_0 ?_
  refine xa_bipush eX8_accepts_1 (by decide) ?_
  refine xs_iload_1 eX8_accepts_3 ?_
  refine xa_idiv eX8_accepts_4 (by decide) (by omega) (by omega) ?_
  refine xa_imul eX8_accepts_5 ?_
  refine xs_istore_4 eX8_accepts_6 rfl ?_
  refine xa_iconst eX8_accepts_8 ?_
  refine xs_istore_5 eX8_accepts_9 rfl ?_
  have h9 := lp 0 (by omega)
  rw [show sm _ 0 = 0 from rfl, Int.add_zero] at h9
  exact h9
