/-! PromiseMarket$Promise -/
theorem k_X1_begin {w : xW} {S : xS} {B : String → xS → Prop} {A : xS → Prop} {j : Nat} {o p b d t : Int} (h1 : xr o) (h2 : xr p) (h3 : xr b) (h4 : xr d) (h5 : xr t) (hq : ∀ S', xrow 10 j 17 (xbeg o p b d t) S' S → A S') : Kv w mX1_begin yX1_begin 0 0 [xp 10 j, xi o, xi p, xi b, xi d, xi t] S A B := by
  refine K.of rfl rfl rfl rfl (Nat.le_of_ble_eq_true rfl) rfl ?_
  refine xs_aload_0 eX1_begin_0 ?_
  refine xa_iconst eX1_begin_1 ?_
  refine p_X1_0 eX1_begin_2 lRX1_9 (by omega) ?_
  refine xs_aload_0 eX1_begin_5 ?_
  refine xs_iload_1 eX1_begin_6 ?_
  refine p_X1_1 eX1_begin_7 lRX1_15 (by omega) ?_
  refine xs_aload_0 eX1_begin_10 ?_
  refine xs_iload_2 eX1_begin_11 ?_
  refine p_X1_2 eX1_begin_12 lRX1_19 (by omega) ?_
  refine xs_aload_0 eX1_begin_15 ?_
  refine xs_iload_3 eX1_begin_16 ?_
  refine p_X1_3 eX1_begin_17 lRX1_22 (by omega) ?_
  refine xs_aload_0 eX1_begin_20 ?_
  refine xs_iload_4 eX1_begin_21 ?_
  refine p_X1_4 eX1_begin_23 lRX1_25 (by omega) ?_
  refine xs_aload_0 eX1_begin_26 ?_
  refine xs_iload_5 eX1_begin_27 ?_
  refine p_X1_5 eX1_begin_29 lRX1_28 (by omega) ?_
  refine xs_aload_0 eX1_begin_32 ?_
  refine xa_iconst eX1_begin_33 ?_
  refine p_X1_6 eX1_begin_34 lRX1_31 (by omega) ?_
  refine xs_aload_0 eX1_begin_37 ?_
  refine xa_iconst eX1_begin_38 ?_
  refine p_X1_7 eX1_begin_39 lRX1_34 (by omega) ?_
  refine xs_aload_0 eX1_begin_42 ?_
  refine xa_iconst eX1_begin_43 ?_
  refine p_X1_8 eX1_begin_44 lRX1_37 (by omega) ?_
  refine xs_aload_0 eX1_begin_47 ?_
  refine xa_iconst eX1_begin_48 ?_
  refine p_X1_9 eX1_begin_49 lRX1_40 (by omega) ?_
  refine xs_aload_0 eX1_begin_52 ?_
  refine xa_iconst eX1_begin_53 ?_
  refine p_X1_10 eX1_begin_54 lRX1_43 (by omega) ?_
  refine xs_aload_0 eX1_begin_57 ?_
  refine xa_iconst eX1_begin_58 ?_
  refine p_X1_11 eX1_begin_59 lRX1_46 (by omega) ?_
  refine xs_aload_0 eX1_begin_62 ?_
  refine xa_iconst eX1_begin_63 ?_
  refine p_X1_12 eX1_begin_64 lRX1_49 (by omega) ?_
  refine xs_aload_0 eX1_begin_67 ?_
  refine xa_iconst eX1_begin_68 ?_
  refine p_X1_13 eX1_begin_69 lRX1_52 (by omega) ?_
  refine xs_aload_0 eX1_begin_72 ?_
  refine xa_iconst eX1_begin_73 ?_
  refine p_X1_14 eX1_begin_74 lRX1_55 (by omega) ?_
  refine xs_aload_0 eX1_begin_77 ?_
  refine xa_iconst eX1_begin_78 ?_
  refine p_X1_15 eX1_begin_79 lRX1_58 (by omega) ?_
  refine xs_aload_0 eX1_begin_82 ?_
  refine xa_iconst eX1_begin_83 ?_
  refine p_X1_16 eX1_begin_84 lRX1_61 (by omega) ?_
  refine xa_vret eX1_begin_87 rfl ⟨rfl, hq _ ⟨fun f hf => ?_, fun x y h => ?_⟩⟩
  · have hf9 : f = 0 ∨ f = 1 ∨ f = 2 ∨ f = 3 ∨ f = 4 ∨ f = 5 ∨ f = 6 ∨ f = 7 ∨ f = 8 ∨ f = 9 ∨ f = 10 ∨ f = 11 ∨ f = 12 ∨ f = 13 ∨ f = 14 ∨ f = 15 ∨ f = 16 := by omega
    rcases hf9 with rfl | rfl | rfl | rfl | rfl | rfl | rfl | rfl | rfl | rfl | rfl | rfl | rfl | rfl | rfl | rfl | rfl <;> simp [up, xbeg]
  · simp only [up_oth h]
theorem k_X1_copyFrom {w : xW} {S : xS} {B : String → xS → Prop} {A : xS → Prop} {j i : Nat} (h0 : S 10 i 0 = 0 ∨ S 10 i 0 = 1) (hq : ∀ S', xrow 10 j 17 (S 10 i) S' S → A S') : Kv w mX1_copyFrom yX1_copyFrom 0 0 [xp 10 j, xp 10 i] S A B := by
  refine K.of rfl rfl rfl rfl (Nat.le_of_ble_eq_true rfl) rfl ?_
  refine xs_aload_0 eX1_copyFrom_0 ?_
  refine xs_aload_1 eX1_copyFrom_1 ?_
  refine gr_X1_0 eX1_copyFrom_2 lRX1_9 (fun r2 => ?_)
  refine p_X1_0 eX1_copyFrom_5 lRX1_9 h0 ?_
  refine xs_aload_0 eX1_copyFrom_8 ?_
  refine xs_aload_1 eX1_copyFrom_9 ?_
  refine gr_X1_1 eX1_copyFrom_10 lRX1_15 (fun r10 => ?_)
  refine p_X1_1 eX1_copyFrom_13 lRX1_15 (by omega) ?_
  refine xs_aload_0 eX1_copyFrom_16 ?_
  refine xs_aload_1 eX1_copyFrom_17 ?_
  refine gr_X1_2 eX1_copyFrom_18 lRX1_19 (fun r18 => ?_)
  refine p_X1_2 eX1_copyFrom_21 lRX1_19 (by omega) ?_
  refine xs_aload_0 eX1_copyFrom_24 ?_
  refine xs_aload_1 eX1_copyFrom_25 ?_
  refine gr_X1_3 eX1_copyFrom_26 lRX1_22 (fun r26 => ?_)
  refine p_X1_3 eX1_copyFrom_29 lRX1_22 (by omega) ?_
  refine xs_aload_0 eX1_copyFrom_32 ?_
  refine xs_aload_1 eX1_copyFrom_33 ?_
  refine gr_X1_4 eX1_copyFrom_34 lRX1_25 (fun r34 => ?_)
  refine p_X1_4 eX1_copyFrom_37 lRX1_25 (by omega) ?_
  refine xs_aload_0 eX1_copyFrom_40 ?_
  refine xs_aload_1 eX1_copyFrom_41 ?_
  refine gr_X1_5 eX1_copyFrom_42 lRX1_28 (fun r42 => ?_)
  refine p_X1_5 eX1_copyFrom_45 lRX1_28 (by omega) ?_
  refine xs_aload_0 eX1_copyFrom_48 ?_
  refine xs_aload_1 eX1_copyFrom_49 ?_
  refine gr_X1_6 eX1_copyFrom_50 lRX1_31 (fun r50 => ?_)
  refine p_X1_6 eX1_copyFrom_53 lRX1_31 (by omega) ?_
  refine xs_aload_0 eX1_copyFrom_56 ?_
  refine xs_aload_1 eX1_copyFrom_57 ?_
  refine gr_X1_7 eX1_copyFrom_58 lRX1_34 (fun r58 => ?_)
  refine p_X1_7 eX1_copyFrom_61 lRX1_34 (by omega) ?_
  refine xs_aload_0 eX1_copyFrom_64 ?_
  refine xs_aload_1 eX1_copyFrom_65 ?_
  refine gr_X1_8 eX1_copyFrom_66 lRX1_37 (fun r66 => ?_)
  refine p_X1_8 eX1_copyFrom_69 lRX1_37 (by omega) ?_
  refine xs_aload_0 eX1_copyFrom_72 ?_
  refine xs_aload_1 eX1_copyFrom_73 ?_
  refine gr_X1_9 eX1_copyFrom_74 lRX1_40 (fun r74 => ?_)
  refine p_X1_9 eX1_copyFrom_77 lRX1_40 (by omega) ?_
  refine xs_aload_0 eX1_copyFrom_80 ?_
  refine xs_aload_1 eX1_copyFrom_81 ?_
  refine gr_X1_10 eX1_copyFrom_82 lRX1_43 (fun r82 => ?_)
  refine p_X1_10 eX1_copyFrom_85 lRX1_43 (by omega) ?_
  refine xs_aload_0 eX1_copyFrom_88 ?_
  refine xs_aload_1 eX1_copyFrom_89 ?_
  refine gr_X1_11 eX1_copyFrom_90 lRX1_46 (fun r90 => ?_)
  refine p_X1_11 eX1_copyFrom_93 lRX1_46 (by omega) ?_
  refine xs_aload_0 eX1_copyFrom_96 ?_
  refine xs_aload_1 eX1_copyFrom_97 ?_
  refine gr_X1_12 eX1_copyFrom_98 lRX1_49 (fun r98 => ?_)
  refine p_X1_12 eX1_copyFrom_101 lRX1_49 (by omega) ?_
  refine xs_aload_0 eX1_copyFrom_104 ?_
  refine xs_aload_1 eX1_copyFrom_105 ?_
  refine gr_X1_13 eX1_copyFrom_106 lRX1_52 (fun r106 => ?_)
  refine p_X1_13 eX1_copyFrom_109 lRX1_52 (by omega) ?_
  refine xs_aload_0 eX1_copyFrom_112 ?_
  refine xs_aload_1 eX1_copyFrom_113 ?_
  refine gr_X1_14 eX1_copyFrom_114 lRX1_55 (fun r114 => ?_)
  refine p_X1_14 eX1_copyFrom_117 lRX1_55 (by omega) ?_
  refine xs_aload_0 eX1_copyFrom_120 ?_
  refine xs_aload_1 eX1_copyFrom_121 ?_
  refine gr_X1_15 eX1_copyFrom_122 lRX1_58 (fun r122 => ?_)
  refine p_X1_15 eX1_copyFrom_125 lRX1_58 (by omega) ?_
  refine xs_aload_0 eX1_copyFrom_128 ?_
  refine xs_aload_1 eX1_copyFrom_129 ?_
  refine gr_X1_16 eX1_copyFrom_130 lRX1_61 (fun r130 => ?_)
  refine p_X1_16 eX1_copyFrom_133 lRX1_61 (by omega) ?_
  refine xa_vret eX1_copyFrom_136 rfl ⟨rfl, hq _ ⟨fun f hf => ?_, fun x y h => ?_⟩⟩
  · have hf9 : f = 0 ∨ f = 1 ∨ f = 2 ∨ f = 3 ∨ f = 4 ∨ f = 5 ∨ f = 6 ∨ f = 7 ∨ f = 8 ∨ f = 9 ∨ f = 10 ∨ f = 11 ∨ f = 12 ∨ f = 13 ∨ f = 14 ∨ f = 15 ∨ f = 16 := by omega
    rcases hf9 with rfl | rfl | rfl | rfl | rfl | rfl | rfl | rfl | rfl | rfl | rfl | rfl | rfl | rfl | rfl | rfl | rfl <;> simp [up]
  · simp only [up_oth h]
theorem k_X1_releaseJob {w : xW} {S : xS} {B : String → xS → Prop} {A : xS → Prop} {j : Nat} (h1 : xr (S 10 j 5 + S 10 j 4)) (h2 : xr (S 10 j 5 + S 10 j 2)) (h3 : xr (S 10 j 15 + 1)) (hq : ∀ S', xrow 10 j 17 (xrel (S 10 j)) S' S → A S') : Kv w mX1_releaseJob yX1_releaseJob 0 0 [xp 10 j] S A B := by
  refine K.of rfl rfl rfl rfl (Nat.le_of_ble_eq_true rfl) rfl ?_
  refine xs_aload_0 eX1_releaseJob_0 ?_
  refine xs_aload_0 eX1_releaseJob_1 ?_
  refine gr_X1_3 eX1_releaseJob_2 lRX1_22 (fun r2 => ?_)
  try simp (decide := true) only [up_app, if_true, if_false, and_true, true_and, and_false, false_and, Int.toNat_natCast, Nat.add_left_cancel_iff] at r2 ⊢
  refine p_X1_6 eX1_releaseJob_5 lRX1_31 (by omega) ?_
  refine xs_aload_0 eX1_releaseJob_8 ?_
  refine xs_aload_0 eX1_releaseJob_9 ?_
  refine gr_X1_5 eX1_releaseJob_10 lRX1_28 (fun r10 => ?_)
  try simp (decide := true) only [up_app, if_true, if_false, and_true, true_and, and_false, false_and, Int.toNat_natCast, Nat.add_left_cancel_iff] at r10 ⊢
  refine xs_aload_0 eX1_releaseJob_13 ?_
  refine gr_X1_4 eX1_releaseJob_14 lRX1_25 (fun r14 => ?_)
  try simp (decide := true) only [up_app, if_true, if_false, and_true, true_and, and_false, false_and, Int.toNat_natCast, Nat.add_left_cancel_iff] at r14 ⊢
  refine xa_iadd eX1_releaseJob_17 ?_
  refine p_X1_7 eX1_releaseJob_18 lRX1_34 (by omega) ?_
  refine xs_aload_0 eX1_releaseJob_21 ?_
  refine xa_dup eX1_releaseJob_22 rfl ?_
  refine gr_X1_5 eX1_releaseJob_23 lRX1_28 (fun r23 => ?_)
  try simp (decide := true) only [up_app, if_true, if_false, and_true, true_and, and_false, false_and, Int.toNat_natCast, Nat.add_left_cancel_iff] at r23 ⊢
  refine xs_aload_0 eX1_releaseJob_26 ?_
  refine gr_X1_2 eX1_releaseJob_27 lRX1_19 (fun r27 => ?_)
  try simp (decide := true) only [up_app, if_true, if_false, and_true, true_and, and_false, false_and, Int.toNat_natCast, Nat.add_left_cancel_iff] at r27 ⊢
  refine xa_iadd eX1_releaseJob_30 ?_
  refine p_X1_5 eX1_releaseJob_31 lRX1_28 (by omega) ?_
  refine xs_aload_0 eX1_releaseJob_34 ?_
  refine xa_dup eX1_releaseJob_35 rfl ?_
  refine gr_X1_15 eX1_releaseJob_36 lRX1_58 (fun r36 => ?_)
  try simp (decide := true) only [up_app, if_true, if_false, and_true, true_and, and_false, false_and, Int.toNat_natCast, Nat.add_left_cancel_iff] at r36 ⊢
  refine xa_iconst eX1_releaseJob_39 ?_
  refine xa_iadd eX1_releaseJob_40 ?_
  refine p_X1_15 eX1_releaseJob_41 lRX1_58 (by omega) ?_
  refine xs_aload_0 eX1_releaseJob_44 ?_
  refine xs_aload_0 eX1_releaseJob_45 ?_
  refine gr_X1_1 eX1_releaseJob_46 lRX1_15 (fun r46 => ?_)
  try simp (decide := true) only [up_app, if_true, if_false, and_true, true_and, and_false, false_and, Int.toNat_natCast, Nat.add_left_cancel_iff] at r46 ⊢
  refine p_X1_8 eX1_releaseJob_49 lRX1_37 (by omega) ?_
  refine xs_aload_0 eX1_releaseJob_52 ?_
  refine gr_X1_11 eX1_releaseJob_53 lRX1_46 (fun r53 => ?_)
  try simp (decide := true) only [up_app, if_true, if_false, and_true, true_and, and_false, false_and, Int.toNat_natCast, Nat.add_left_cancel_iff] at r53 ⊢
  refine xa_if_le (tgt := 96) eX1_releaseJob_56 (by decide) (by omega) (fun c56 => ?_) (fun c56 => ?_)
  · refine xa_vret eX1_releaseJob_96 rfl ⟨rfl, hq _ ⟨fun f hf => ?_, fun x y h => ?_⟩⟩
    · have hf9 : f = 0 ∨ f = 1 ∨ f = 2 ∨ f = 3 ∨ f = 4 ∨ f = 5 ∨ f = 6 ∨ f = 7 ∨ f = 8 ∨ f = 9 ∨ f = 10 ∨ f = 11 ∨ f = 12 ∨ f = 13 ∨ f = 14 ∨ f = 15 ∨ f = 16 := by omega
      rcases hf9 with rfl | rfl | rfl | rfl | rfl | rfl | rfl | rfl | rfl | rfl | rfl | rfl | rfl | rfl | rfl | rfl | rfl <;> (simp [up, xrel]; try omega)
    · simp only [up_oth h]
  · refine xs_aload_0 eX1_releaseJob_59 ?_
    refine xs_aload_0 eX1_releaseJob_60 ?_
    refine gr_X1_10 eX1_releaseJob_61 lRX1_43 (fun r61 => ?_)
    try simp (decide := true) only [up_app, if_true, if_false, and_true, true_and, and_false, false_and, Int.toNat_natCast, Nat.add_left_cancel_iff] at r61 ⊢
    refine p_X1_8 eX1_releaseJob_64 lRX1_37 (by omega) ?_
    refine xs_aload_0 eX1_releaseJob_67 ?_
    refine xa_dup eX1_releaseJob_68 rfl ?_
    refine gr_X1_11 eX1_releaseJob_69 lRX1_46 (fun r69 => ?_)
    try simp (decide := true) only [up_app, if_true, if_false, and_true, true_and, and_false, false_and, Int.toNat_natCast, Nat.add_left_cancel_iff] at r69 ⊢
    refine xa_iconst eX1_releaseJob_72 ?_
    refine xa_isub eX1_releaseJob_73 ?_
    refine p_X1_11 eX1_releaseJob_74 lRX1_46 (by omega) ?_
    refine xs_aload_0 eX1_releaseJob_77 ?_
    refine xs_aload_0 eX1_releaseJob_78 ?_
    refine gr_X1_11 eX1_releaseJob_79 lRX1_46 (fun r79 => ?_)
    try simp (decide := true) only [up_app, if_true, if_false, and_true, true_and, and_false, false_and, Int.toNat_natCast, Nat.add_left_cancel_iff] at r79 ⊢
    refine xa_if_le (tgt := 92) eX1_releaseJob_82 (by decide) (by omega) (fun c82 => ?_) (fun c82 => ?_)
    · refine xa_iconst eX1_releaseJob_92 ?_
      refine p_X1_10 eX1_releaseJob_93 lRX1_43 (by omega) ?_
      refine xa_vret eX1_releaseJob_96 rfl ⟨rfl, hq _ ⟨fun f hf => ?_, fun x y h => ?_⟩⟩
      · have hf9 : f = 0 ∨ f = 1 ∨ f = 2 ∨ f = 3 ∨ f = 4 ∨ f = 5 ∨ f = 6 ∨ f = 7 ∨ f = 8 ∨ f = 9 ∨ f = 10 ∨ f = 11 ∨ f = 12 ∨ f = 13 ∨ f = 14 ∨ f = 15 ∨ f = 16 := by omega
        rcases hf9 with rfl | rfl | rfl | rfl | rfl | rfl | rfl | rfl | rfl | rfl | rfl | rfl | rfl | rfl | rfl | rfl | rfl <;> (simp [up, xrel]; try omega)
      · simp only [up_oth h]
    · refine xs_aload_0 eX1_releaseJob_85 ?_
      refine gr_X1_10 eX1_releaseJob_86 lRX1_43 (fun r86 => ?_)
      try simp (decide := true) only [up_app, if_true, if_false, and_true, true_and, and_false, false_and, Int.toNat_natCast, Nat.add_left_cancel_iff] at r86 ⊢
      refine xa_goto (tgt := 93) eX1_releaseJob_89 (by decide) ?_
      refine p_X1_10 eX1_releaseJob_93 lRX1_43 (by omega) ?_
      refine xa_vret eX1_releaseJob_96 rfl ⟨rfl, hq _ ⟨fun f hf => ?_, fun x y h => ?_⟩⟩
      · have hf9 : f = 0 ∨ f = 1 ∨ f = 2 ∨ f = 3 ∨ f = 4 ∨ f = 5 ∨ f = 6 ∨ f = 7 ∨ f = 8 ∨ f = 9 ∨ f = 10 ∨ f = 11 ∨ f = 12 ∨ f = 13 ∨ f = 14 ∨ f = 15 ∨ f = 16 := by omega
        rcases hf9 with rfl | rfl | rfl | rfl | rfl | rfl | rfl | rfl | rfl | rfl | rfl | rfl | rfl | rfl | rfl | rfl | rfl <;> (simp [up, xrel]; try omega)
      · simp only [up_oth h]
theorem k_X1_missJob {w : xW} {S : xS} {B : String → xS → Prop} {A : Int → xS → Prop} {j : Nat} {t : Int} (ht : xr t) (h1 : xr (S 10 j 16 + 1)) (hq : ∀ S', xrow 10 j 17 (xmis t (S 10 j)) S' S → A (b2i (0 < S 10 j 6 ∧ S 10 j 7 ≤ t)) S') : Ki w mX1_missJob yX1_missJob 0 0 [xp 10 j, xi t] S A B := by
  refine K.of rfl rfl rfl rfl (Nat.le_of_ble_eq_true rfl) rfl ?_
  refine xs_aload_0 eX1_missJob_0 ?_
  refine gr_X1_6 eX1_missJob_1 lRX1_31 (fun r1 => ?_)
  try simp (decide := true) only [up_app, if_true, if_false, and_true, true_and, and_false, false_and, Int.toNat_natCast, Nat.add_left_cancel_iff] at r1 ⊢
  refine xa_if_le (tgt := 19) eX1_missJob_4 (by decide) (by omega) (fun c4 => ?_) (fun c4 => ?_)
  · refine xa_iconst eX1_missJob_19 ?_
    refine xs_istore_2 eX1_missJob_20 rfl ?_
    refine xs_iload_2 eX1_missJob_21 ?_
    refine xa_if_eq (tgt := 40) eX1_missJob_22 (by decide) (by omega) (fun c22 => ?_) (fun c22 => ?_)
    · refine xs_iload_2 eX1_missJob_40 ?_
      refine xa_zret eX1_missJob_41 rfl (by omega) ⟨_, rfl, ?_⟩
      first | refine b2i_0 (A := fun z => A z _) (P := 0 < S 10 j 6 ∧ S 10 j 7 ≤ t) (by omega) (hq _ ⟨fun f hf => ?_, fun x y h => ?_⟩) | refine b2i_1 (A := fun z => A z _) (P := 0 < S 10 j 6 ∧ S 10 j 7 ≤ t) (by omega) (hq _ ⟨fun f hf => ?_, fun x y h => ?_⟩)
      · have hf9 : f = 0 ∨ f = 1 ∨ f = 2 ∨ f = 3 ∨ f = 4 ∨ f = 5 ∨ f = 6 ∨ f = 7 ∨ f = 8 ∨ f = 9 ∨ f = 10 ∨ f = 11 ∨ f = 12 ∨ f = 13 ∨ f = 14 ∨ f = 15 ∨ f = 16 := by omega
        rcases hf9 with rfl | rfl | rfl | rfl | rfl | rfl | rfl | rfl | rfl | rfl | rfl | rfl | rfl | rfl | rfl | rfl | rfl <;> (simp [up, xmis]; try omega)
      · simp only [up_oth h]
    · refine xs_aload_0 eX1_missJob_25 ?_
      refine xa_iconst eX1_missJob_26 ?_
      refine p_X1_6 eX1_missJob_27 lRX1_31 (by omega) ?_
      refine xs_aload_0 eX1_missJob_30 ?_
      refine xa_dup eX1_missJob_31 rfl ?_
      refine gr_X1_16 eX1_missJob_32 lRX1_61 (fun r32 => ?_)
      try simp (decide := true) only [up_app, if_true, if_false, and_true, true_and, and_false, false_and, Int.toNat_natCast, Nat.add_left_cancel_iff] at r32 ⊢
      refine xa_iconst eX1_missJob_35 ?_
      refine xa_iadd eX1_missJob_36 ?_
      refine p_X1_16 eX1_missJob_37 lRX1_61 (by omega) ?_
      refine xs_iload_2 eX1_missJob_40 ?_
      refine xa_zret eX1_missJob_41 rfl (by omega) ⟨_, rfl, ?_⟩
      first | refine b2i_0 (A := fun z => A z _) (P := 0 < S 10 j 6 ∧ S 10 j 7 ≤ t) (by omega) (hq _ ⟨fun f hf => ?_, fun x y h => ?_⟩) | refine b2i_1 (A := fun z => A z _) (P := 0 < S 10 j 6 ∧ S 10 j 7 ≤ t) (by omega) (hq _ ⟨fun f hf => ?_, fun x y h => ?_⟩)
      · have hf9 : f = 0 ∨ f = 1 ∨ f = 2 ∨ f = 3 ∨ f = 4 ∨ f = 5 ∨ f = 6 ∨ f = 7 ∨ f = 8 ∨ f = 9 ∨ f = 10 ∨ f = 11 ∨ f = 12 ∨ f = 13 ∨ f = 14 ∨ f = 15 ∨ f = 16 := by omega
        rcases hf9 with rfl | rfl | rfl | rfl | rfl | rfl | rfl | rfl | rfl | rfl | rfl | rfl | rfl | rfl | rfl | rfl | rfl <;> (simp [up, xmis]; try omega)
      · simp only [up_oth h]
  · refine xs_aload_0 eX1_missJob_7 ?_
    refine gr_X1_7 eX1_missJob_8 lRX1_34 (fun r8 => ?_)
    try simp (decide := true) only [up_app, if_true, if_false, and_true, true_and, and_false, false_and, Int.toNat_natCast, Nat.add_left_cancel_iff] at r8 ⊢
    refine xs_iload_1 eX1_missJob_11 ?_
    refine xa_icmp_gt (tgt := 19) eX1_missJob_12 (by decide) (by omega) (by omega) (fun c12 => ?_) (fun c12 => ?_)
    · refine xa_iconst eX1_missJob_19 ?_
      refine xs_istore_2 eX1_missJob_20 rfl ?_
      refine xs_iload_2 eX1_missJob_21 ?_
      refine xa_if_eq (tgt := 40) eX1_missJob_22 (by decide) (by omega) (fun c22 => ?_) (fun c22 => ?_)
      · refine xs_iload_2 eX1_missJob_40 ?_
        refine xa_zret eX1_missJob_41 rfl (by omega) ⟨_, rfl, ?_⟩
        first | refine b2i_0 (A := fun z => A z _) (P := 0 < S 10 j 6 ∧ S 10 j 7 ≤ t) (by omega) (hq _ ⟨fun f hf => ?_, fun x y h => ?_⟩) | refine b2i_1 (A := fun z => A z _) (P := 0 < S 10 j 6 ∧ S 10 j 7 ≤ t) (by omega) (hq _ ⟨fun f hf => ?_, fun x y h => ?_⟩)
        · have hf9 : f = 0 ∨ f = 1 ∨ f = 2 ∨ f = 3 ∨ f = 4 ∨ f = 5 ∨ f = 6 ∨ f = 7 ∨ f = 8 ∨ f = 9 ∨ f = 10 ∨ f = 11 ∨ f = 12 ∨ f = 13 ∨ f = 14 ∨ f = 15 ∨ f = 16 := by omega
          rcases hf9 with rfl | rfl | rfl | rfl | rfl | rfl | rfl | rfl | rfl | rfl | rfl | rfl | rfl | rfl | rfl | rfl | rfl <;> (simp [up, xmis]; try omega)
        · simp only [up_oth h]
      · refine xs_aload_0 eX1_missJob_25 ?_
        refine xa_iconst eX1_missJob_26 ?_
        refine p_X1_6 eX1_missJob_27 lRX1_31 (by omega) ?_
        refine xs_aload_0 eX1_missJob_30 ?_
        refine xa_dup eX1_missJob_31 rfl ?_
        refine gr_X1_16 eX1_missJob_32 lRX1_61 (fun r32 => ?_)
        try simp (decide := true) only [up_app, if_true, if_false, and_true, true_and, and_false, false_and, Int.toNat_natCast, Nat.add_left_cancel_iff] at r32 ⊢
        refine xa_iconst eX1_missJob_35 ?_
        refine xa_iadd eX1_missJob_36 ?_
        refine p_X1_16 eX1_missJob_37 lRX1_61 (by omega) ?_
        refine xs_iload_2 eX1_missJob_40 ?_
        refine xa_zret eX1_missJob_41 rfl (by omega) ⟨_, rfl, ?_⟩
        first | refine b2i_0 (A := fun z => A z _) (P := 0 < S 10 j 6 ∧ S 10 j 7 ≤ t) (by omega) (hq _ ⟨fun f hf => ?_, fun x y h => ?_⟩) | refine b2i_1 (A := fun z => A z _) (P := 0 < S 10 j 6 ∧ S 10 j 7 ≤ t) (by omega) (hq _ ⟨fun f hf => ?_, fun x y h => ?_⟩)
        · have hf9 : f = 0 ∨ f = 1 ∨ f = 2 ∨ f = 3 ∨ f = 4 ∨ f = 5 ∨ f = 6 ∨ f = 7 ∨ f = 8 ∨ f = 9 ∨ f = 10 ∨ f = 11 ∨ f = 12 ∨ f = 13 ∨ f = 14 ∨ f = 15 ∨ f = 16 := by omega
          rcases hf9 with rfl | rfl | rfl | rfl | rfl | rfl | rfl | rfl | rfl | rfl | rfl | rfl | rfl | rfl | rfl | rfl | rfl <;> (simp [up, xmis]; try omega)
        · simp only [up_oth h]
    · refine xa_iconst eX1_missJob_15 ?_
      refine xa_goto (tgt := 20) eX1_missJob_16 (by decide) ?_
      refine xs_istore_2 eX1_missJob_20 rfl ?_
      refine xs_iload_2 eX1_missJob_21 ?_
      refine xa_if_eq (tgt := 40) eX1_missJob_22 (by decide) (by omega) (fun c22 => ?_) (fun c22 => ?_)
      · refine xs_iload_2 eX1_missJob_40 ?_
        refine xa_zret eX1_missJob_41 rfl (by omega) ⟨_, rfl, ?_⟩
        first | refine b2i_0 (A := fun z => A z _) (P := 0 < S 10 j 6 ∧ S 10 j 7 ≤ t) (by omega) (hq _ ⟨fun f hf => ?_, fun x y h => ?_⟩) | refine b2i_1 (A := fun z => A z _) (P := 0 < S 10 j 6 ∧ S 10 j 7 ≤ t) (by omega) (hq _ ⟨fun f hf => ?_, fun x y h => ?_⟩)
        · have hf9 : f = 0 ∨ f = 1 ∨ f = 2 ∨ f = 3 ∨ f = 4 ∨ f = 5 ∨ f = 6 ∨ f = 7 ∨ f = 8 ∨ f = 9 ∨ f = 10 ∨ f = 11 ∨ f = 12 ∨ f = 13 ∨ f = 14 ∨ f = 15 ∨ f = 16 := by omega
          rcases hf9 with rfl | rfl | rfl | rfl | rfl | rfl | rfl | rfl | rfl | rfl | rfl | rfl | rfl | rfl | rfl | rfl | rfl <;> (simp [up, xmis]; try omega)
        · simp only [up_oth h]
      · refine xs_aload_0 eX1_missJob_25 ?_
        refine xa_iconst eX1_missJob_26 ?_
        refine p_X1_6 eX1_missJob_27 lRX1_31 (by omega) ?_
        refine xs_aload_0 eX1_missJob_30 ?_
        refine xa_dup eX1_missJob_31 rfl ?_
        refine gr_X1_16 eX1_missJob_32 lRX1_61 (fun r32 => ?_)
        try simp (decide := true) only [up_app, if_true, if_false, and_true, true_and, and_false, false_and, Int.toNat_natCast, Nat.add_left_cancel_iff] at r32 ⊢
        refine xa_iconst eX1_missJob_35 ?_
        refine xa_iadd eX1_missJob_36 ?_
        refine p_X1_16 eX1_missJob_37 lRX1_61 (by omega) ?_
        refine xs_iload_2 eX1_missJob_40 ?_
        refine xa_zret eX1_missJob_41 rfl (by omega) ⟨_, rfl, ?_⟩
        first | refine b2i_0 (A := fun z => A z _) (P := 0 < S 10 j 6 ∧ S 10 j 7 ≤ t) (by omega) (hq _ ⟨fun f hf => ?_, fun x y h => ?_⟩) | refine b2i_1 (A := fun z => A z _) (P := 0 < S 10 j 6 ∧ S 10 j 7 ≤ t) (by omega) (hq _ ⟨fun f hf => ?_, fun x y h => ?_⟩)
        · have hf9 : f = 0 ∨ f = 1 ∨ f = 2 ∨ f = 3 ∨ f = 4 ∨ f = 5 ∨ f = 6 ∨ f = 7 ∨ f = 8 ∨ f = 9 ∨ f = 10 ∨ f = 11 ∨ f = 12 ∨ f = 13 ∨ f = 14 ∨ f = 15 ∨ f = 16 := by omega
          rcases hf9 with rfl | rfl | rfl | rfl | rfl | rfl | rfl | rfl | rfl | rfl | rfl | rfl | rfl | rfl | rfl | rfl | rfl <;> (simp [up, xmis]; try omega)
        · simp only [up_oth h]
theorem k_X1_finish {w : xW} {S : xS} {B : String → xS → Prop} {A : Int → xS → Prop} {j : Nat} (hq : ∀ S', xrow 10 j 17 (xfin (S 10 j)) S' S → A (S 10 j 6) S') : Ki w mX1_finish yX1_finish 0 0 [xp 10 j] S A B := by
  refine K.of rfl rfl rfl rfl (Nat.le_of_ble_eq_true rfl) rfl ?_
  refine xs_aload_0 eX1_finish_0 ?_
  refine gr_X1_6 eX1_finish_1 lRX1_31 (fun r1 => ?_)
  try simp (decide := true) only [up_app, if_true, if_false, and_true, true_and, and_false, false_and, Int.toNat_natCast, Nat.add_left_cancel_iff] at r1 ⊢
  refine xs_istore_1 eX1_finish_4 rfl ?_
  refine xs_aload_0 eX1_finish_5 ?_
  refine xa_iconst eX1_finish_6 ?_
  refine p_X1_0 eX1_finish_7 lRX1_9 (by omega) ?_
  refine xs_aload_0 eX1_finish_10 ?_
  refine xa_iconst eX1_finish_11 ?_
  refine p_X1_5 eX1_finish_12 lRX1_28 (by omega) ?_
  refine xs_aload_0 eX1_finish_15 ?_
  refine xa_iconst eX1_finish_16 ?_
  refine p_X1_6 eX1_finish_17 lRX1_31 (by omega) ?_
  refine xs_aload_0 eX1_finish_20 ?_
  refine xa_iconst eX1_finish_21 ?_
  refine p_X1_7 eX1_finish_22 lRX1_34 (by omega) ?_
  refine xs_aload_0 eX1_finish_25 ?_
  refine xa_iconst eX1_finish_26 ?_
  refine p_X1_9 eX1_finish_27 lRX1_40 (by omega) ?_
  refine xs_aload_0 eX1_finish_30 ?_
  refine xa_iconst eX1_finish_31 ?_
  refine p_X1_10 eX1_finish_32 lRX1_43 (by omega) ?_
  refine xs_aload_0 eX1_finish_35 ?_
  refine xa_iconst eX1_finish_36 ?_
  refine p_X1_11 eX1_finish_37 lRX1_46 (by omega) ?_
  refine xs_iload_1 eX1_finish_40 ?_
  refine xa_iret eX1_finish_41 rfl ⟨_, rfl, hq _ ⟨fun f hf => ?_, fun x y h => ?_⟩⟩
  · have hf9 : f = 0 ∨ f = 1 ∨ f = 2 ∨ f = 3 ∨ f = 4 ∨ f = 5 ∨ f = 6 ∨ f = 7 ∨ f = 8 ∨ f = 9 ∨ f = 10 ∨ f = 11 ∨ f = 12 ∨ f = 13 ∨ f = 14 ∨ f = 15 ∨ f = 16 := by omega
    rcases hf9 with rfl | rfl | rfl | rfl | rfl | rfl | rfl | rfl | rfl | rfl | rfl | rfl | rfl | rfl | rfl | rfl | rfl <;> simp [up, xfin]
  · simp only [up_oth h]
theorem k_X1_giveRest {w : xW} {S : xS} {B : String → xS → Prop} {A : xS → Prop} {j i : Nat} {a : Int} (hne : j ≠ i) (ha : xr a) (h1 : xr (S 10 j 6 - a)) (hq : ∀ S', (∀ f, f < 17 → S' 10 j f = xgr1 a (S 10 j) f) ∧ (∀ f, f < 17 → S' 10 i f = xgr2 a (S 10 j) (S 10 i) f) ∧ (∀ x y, ¬ (x = 10 ∧ y = j) → ¬ (x = 10 ∧ y = i) → S' x y = S x y) → A S') : Kv w mX1_giveRest yX1_giveRest 0 0 [xp 10 j, xi a, xp 10 i] S A B := by
  refine K.of rfl rfl rfl rfl (Nat.le_of_ble_eq_true rfl) rfl ?_
  have hne1 : (j = i) = False := eq_false hne
  have hne2 : (i = j) = False := eq_false (Ne.symm hne)
  refine xs_aload_2 eX1_giveRest_0 ?_
  refine xs_aload_0 eX1_giveRest_1 ?_
  refine gr_X1_5 eX1_giveRest_2 lRX1_28 (fun r2 => ?_)
  try simp (decide := true) only [up_app, hne1, hne2, if_true, if_false, and_true, true_and, and_false, false_and, Int.toNat_natCast, Nat.add_left_cancel_iff] at r2 ⊢
  refine p_X1_5 eX1_giveRest_5 lRX1_28 (by omega) ?_
  refine xs_aload_2 eX1_giveRest_8 ?_
  refine xa_iconst eX1_giveRest_9 ?_
  refine xs_aload_0 eX1_giveRest_10 ?_
  refine gr_X1_6 eX1_giveRest_11 lRX1_31 (fun r11 => ?_)
  try simp (decide := true) only [up_app, hne1, hne2, if_true, if_false, and_true, true_and, and_false, false_and, Int.toNat_natCast, Nat.add_left_cancel_iff] at r11 ⊢
  refine xs_iload_1 eX1_giveRest_14 ?_
  refine xa_isub eX1_giveRest_15 ?_
  refine xa_max eX1_giveRest_16 lRX1_64 lm_max1 li_Math lm_max2 (by decide) (Nat.le_of_ble_eq_true rfl) rfl (by omega) (by omega) ?_
  refine p_X1_6 eX1_giveRest_19 lRX1_31 (by have := xmax_or 0 (S 10 j 6 - a); omega) ?_
  refine xs_aload_2 eX1_giveRest_22 ?_
  refine xs_aload_0 eX1_giveRest_23 ?_
  refine gr_X1_7 eX1_giveRest_24 lRX1_34 (fun r24 => ?_)
  try simp (decide := true) only [up_app, hne1, hne2, if_true, if_false, and_true, true_and, and_false, false_and, Int.toNat_natCast, Nat.add_left_cancel_iff] at r24 ⊢
  refine p_X1_7 eX1_giveRest_27 lRX1_34 (by omega) ?_
  refine xs_aload_2 eX1_giveRest_30 ?_
  refine xs_aload_0 eX1_giveRest_31 ?_
  refine gr_X1_8 eX1_giveRest_32 lRX1_37 (fun r32 => ?_)
  try simp (decide := true) only [up_app, hne1, hne2, if_true, if_false, and_true, true_and, and_false, false_and, Int.toNat_natCast, Nat.add_left_cancel_iff] at r32 ⊢
  refine p_X1_8 eX1_giveRest_35 lRX1_37 (by omega) ?_
  refine xs_aload_0 eX1_giveRest_38 ?_
  refine xs_iload_1 eX1_giveRest_39 ?_
  refine p_X1_3 eX1_giveRest_40 lRX1_22 (by omega) ?_
  refine xs_aload_0 eX1_giveRest_43 ?_
  refine xs_aload_0 eX1_giveRest_44 ?_
  refine gr_X1_6 eX1_giveRest_45 lRX1_31 (fun r45 => ?_)
  try simp (decide := true) only [up_app, hne1, hne2, if_true, if_false, and_true, true_and, and_false, false_and, Int.toNat_natCast, Nat.add_left_cancel_iff] at r45 ⊢
  refine xs_iload_1 eX1_giveRest_48 ?_
  refine xa_min eX1_giveRest_49 lRX1_70 lm_min1 li_Math lm_min2 (by decide) (Nat.le_of_ble_eq_true rfl) rfl (by omega) (by omega) ?_
  refine p_X1_6 eX1_giveRest_52 lRX1_31 (by have := xmin_or (S 10 j 6) a; omega) ?_
  refine xa_vret eX1_giveRest_55 rfl ⟨rfl, hq _ ⟨fun f hf => ?_, fun f hf => ?_, fun x y h1 h2 => ?_⟩⟩
  · have hf9 : f = 0 ∨ f = 1 ∨ f = 2 ∨ f = 3 ∨ f = 4 ∨ f = 5 ∨ f = 6 ∨ f = 7 ∨ f = 8 ∨ f = 9 ∨ f = 10 ∨ f = 11 ∨ f = 12 ∨ f = 13 ∨ f = 14 ∨ f = 15 ∨ f = 16 := by omega
    rcases hf9 with rfl | rfl | rfl | rfl | rfl | rfl | rfl | rfl | rfl | rfl | rfl | rfl | rfl | rfl | rfl | rfl | rfl <;> simp [up, xgr1, hne]
  · have hf9 : f = 0 ∨ f = 1 ∨ f = 2 ∨ f = 3 ∨ f = 4 ∨ f = 5 ∨ f = 6 ∨ f = 7 ∨ f = 8 ∨ f = 9 ∨ f = 10 ∨ f = 11 ∨ f = 12 ∨ f = 13 ∨ f = 14 ∨ f = 15 ∨ f = 16 := by omega
    rcases hf9 with rfl | rfl | rfl | rfl | rfl | rfl | rfl | rfl | rfl | rfl | rfl | rfl | rfl | rfl | rfl | rfl | rfl <;> simp [up, xgr2, Ne.symm hne]
  · simp only [up_oth h1, up_oth h2]
theorem k_X1_ticksInCycle {w : xW} {S : xS} {B : String → xS → Prop} {A : Int → xS → Prop} {j : Nat} (hq : A (xtic (S 10 j)) S) : Ki w mX1_ticksInCycle yX1_ticksInCycle 0 0 [xp 10 j] S A B := by
  refine K.of rfl rfl rfl rfl (Nat.le_of_ble_eq_true rfl) rfl ?_
  refine xs_aload_0 eX1_ticksInCycle_0 ?_
  refine gr_X1_2 eX1_ticksInCycle_1 lRX1_19 (fun r1 => ?_)
  refine xa_iconst eX1_ticksInCycle_4 ?_
  refine xa_icmp_ge (tgt := 12) eX1_ticksInCycle_5 (by decide) (by omega) (by omega) (fun c5 => ?_) (fun c5 => ?_)
  · refine xs_aload_0 eX1_ticksInCycle_12 ?_
    refine gr_X1_3 eX1_ticksInCycle_13 lRX1_22 (fun r13 => ?_)
    refine xa_bipush eX1_ticksInCycle_16 (by decide) ?_
    refine xs_aload_0 eX1_ticksInCycle_18 ?_
    refine gr_X1_2 eX1_ticksInCycle_19 lRX1_19 (fun r19 => ?_)
    refine xa_idiv eX1_ticksInCycle_22 (by omega) (by omega) (by omega) ?_
    refine xa_imul eX1_ticksInCycle_23 ?_
    exact xa_iret eX1_ticksInCycle_24 rfl ⟨_, rfl, by first | (rw [xtic, if_pos (by omega)] at hq; exact hq) | (rw [xtic, if_neg (by omega)] at hq; exact hq)⟩
  · refine xa_iconst eX1_ticksInCycle_8 ?_
    refine xa_goto (tgt := 24) eX1_ticksInCycle_9 (by decide) ?_
    exact xa_iret eX1_ticksInCycle_24 rfl ⟨_, rfl, by first | (rw [xtic, if_pos (by omega)] at hq; exact hq) | (rw [xtic, if_neg (by omega)] at hq; exact hq)⟩
theorem k_X1_share {w : xW} {S : xS} {B : String → xS → Prop} {A : UInt64 → xS → Prop} {j : Nat} (hv : 1 ≤ S 10 j 2 → vf_n64 (FP.ddiv (FP.i2d (Int32.ofInt (S 10 j 3))) (FP.i2d (Int32.ofInt (S 10 j 2))))) (hq : A (xshr (S 10 j)) S) : Kd w mX1_share yX1_share 0 0 [xp 10 j] S A B := by
  refine K.of rfl rfl rfl rfl (Nat.le_of_ble_eq_true rfl) rfl ?_
  refine xs_aload_0 eX1_share_0 ?_
  refine gr_X1_2 eX1_share_1 lRX1_19 (fun r1 => ?_)
  refine xa_iconst eX1_share_4 ?_
  refine xa_icmp_ge (tgt := 12) eX1_share_5 (by decide) (by omega) (by omega) (fun c5 => ?_) (fun c5 => ?_)
  · refine xs_aload_0 eX1_share_12 ?_
    refine gr_X1_3 eX1_share_13 lRX1_22 (fun r13 => ?_)
    refine xa_i2d eX1_share_16 ?_
    refine xs_aload_0 eX1_share_17 ?_
    refine gr_X1_2 eX1_share_18 lRX1_19 (fun r18 => ?_)
    refine xa_i2d eX1_share_21 ?_
    refine xa_ddiv eX1_share_22 (hv (by omega)) ?_
    exact xa_dret eX1_share_23 rfl ⟨_, rfl, by first | (rw [xshr, if_pos (by omega)] at hq; exact hq) | (rw [xshr, if_neg (by omega)] at hq; exact hq)⟩
  · refine xa_dconst0 eX1_share_8 ?_
    refine xa_goto (tgt := 23) eX1_share_9 (by decide) ?_
    exact xa_dret eX1_share_23 rfl ⟨_, rfl, by first | (rw [xshr, if_pos (by omega)] at hq; exact hq) | (rw [xshr, if_neg (by omega)] at hq; exact hq)⟩
theorem k_X1_demandIn {w : xW} {S : xS} {B : String → xS → Prop} {A : Int → xS → Prop} {j : Nat} {t : Int} (ht : xr t) (h1 : xr (t - S 10 j 4)) (hq : A (xdem t (S 10 j)) S) : Ki w mX1_demandIn yX1_demandIn 0 0 [xp 10 j, xi t] S A B := by
  refine K.of rfl rfl rfl rfl (Nat.le_of_ble_eq_true rfl) rfl ?_
  refine xs_iload_1 eX1_demandIn_0 ?_
  refine xs_aload_0 eX1_demandIn_1 ?_
  refine gr_X1_4 eX1_demandIn_2 lRX1_25 (fun r2 => ?_)
  refine xa_icmp_lt (tgt := 16) eX1_demandIn_5 (by decide) (by omega) (by omega) (fun c5 => ?_) (fun c5 => ?_)
  · refine xa_iconst eX1_demandIn_16 ?_
    refine xa_goto (tgt := 38) eX1_demandIn_17 (by decide) ?_
    exact xa_iret eX1_demandIn_38 rfl ⟨_, rfl, by first | (rw [xdem, if_pos (by omega)] at hq; exact hq) | (rw [xdem, if_neg (by omega)] at hq; exact hq)⟩
  · refine xs_aload_0 eX1_demandIn_8 ?_
    refine gr_X1_2 eX1_demandIn_9 lRX1_19 (fun r9 => ?_)
    refine xa_iconst eX1_demandIn_12 ?_
    refine xa_icmp_ge (tgt := 20) eX1_demandIn_13 (by decide) (by omega) (by omega) (fun c13 => ?_) (fun c13 => ?_)
    · refine xs_aload_0 eX1_demandIn_20 ?_
      refine gr_X1_3 eX1_demandIn_21 lRX1_22 (fun r21 => ?_)
      refine xs_iload_1 eX1_demandIn_24 ?_
      refine xs_aload_0 eX1_demandIn_25 ?_
      refine gr_X1_4 eX1_demandIn_26 lRX1_25 (fun r26 => ?_)
      refine xa_isub eX1_demandIn_29 ?_
      refine xs_aload_0 eX1_demandIn_30 ?_
      refine gr_X1_2 eX1_demandIn_31 lRX1_19 (fun r31 => ?_)
      refine xa_idiv eX1_demandIn_34 (by omega) (by omega) (by omega) ?_
      refine xa_iconst eX1_demandIn_35 ?_
      refine xa_iadd eX1_demandIn_36 ?_
      refine xa_imul eX1_demandIn_37 ?_
      exact xa_iret eX1_demandIn_38 rfl ⟨_, rfl, by first | (rw [xdem, if_pos (by omega)] at hq; exact hq) | (rw [xdem, if_neg (by omega)] at hq; exact hq)⟩
    · refine xa_iconst eX1_demandIn_16 ?_
      refine xa_goto (tgt := 38) eX1_demandIn_17 (by decide) ?_
      exact xa_iret eX1_demandIn_38 rfl ⟨_, rfl, by first | (rw [xdem, if_pos (by omega)] at hq; exact hq) | (rw [xdem, if_neg (by omega)] at hq; exact hq)⟩
theorem k_X1_figure {w : xW} {S : xS} {B : String → xS → Prop} {A : Int → xS → Prop} {j : Nat} {a t : Int} (ha : 0 ≤ a ∧ a < 17) (ht : xr t) (h0 : S 10 j 0 = 0 ∨ S 10 j 0 = 1) (hq : A (xfg1 t (S 10 j) a.toNat) S) : Ki w mX1_figure yX1_figure 0 0 [xp 10 j, xi a, xi t] S A B := by
  refine K.of rfl rfl rfl rfl (Nat.le_of_ble_eq_true rfl) rfl ?_
  refine xs_iload_2 eX1_figure_0 ?_
  refine xs_aload_0 eX1_figure_1 ?_
  refine gr_X1_7 eX1_figure_2 lRX1_34 (fun r2 => ?_)
  refine xa_icmp_ge (tgt := 12) eX1_figure_5 (by decide) (by omega) (by omega) (fun c5 => ?_) (fun c5 => ?_)
  · refine xa_iconst eX1_figure_12 ?_
    refine xs_istore_3 eX1_figure_13 rfl ?_
    refine xs_iload_1 eX1_figure_14 ?_
    rcases (show a = 0 ∨ a = 1 ∨ a = 2 ∨ a = 3 ∨ a = 4 ∨ a = 5 ∨ a = 6 ∨ a = 7 ∨ a = 8 ∨ a = 9 ∨ a = 10 ∨ a = 11 ∨ a = 12 ∨ a = 13 ∨ a = 14 ∨ a = 15 ∨ a = 16 by omega) with rfl | rfl | rfl | rfl | rfl | rfl | rfl | rfl | rfl | rfl | rfl | rfl | rfl | rfl | rfl | rfl | rfl
    · refine xa_tabIn (off := 77) (tgt := 92) eX1_figure_15 (by decide) (by decide) (by decide) rfl (by decide) ?_
      refine xs_aload_0 eX1_figure_92 ?_
      refine gr_X1_0 eX1_figure_93 lRX1_9 (fun r93 => ?_)
      refine xa_if_eq (tgt := 103) eX1_figure_96 (by decide) (by omega) (fun c96 => ?_) (fun c96 => ?_)
      · refine xa_iconst eX1_figure_103 ?_
        exact xa_iret eX1_figure_104 rfl ⟨_, rfl, by first | (rw [xfg1, if_neg (by omega)] at hq; rw [show (1 : Int) = S 10 j 0 by omega]; exact hq) | (rw [xfg1, if_neg (by omega)] at hq; rw [show (0 : Int) = S 10 j 0 by omega]; exact hq)⟩
      · refine xa_iconst eX1_figure_99 ?_
        refine xa_goto (tgt := 104) eX1_figure_100 (by decide) ?_
        exact xa_iret eX1_figure_104 rfl ⟨_, rfl, by first | (rw [xfg1, if_neg (by omega)] at hq; rw [show (1 : Int) = S 10 j 0 by omega]; exact hq) | (rw [xfg1, if_neg (by omega)] at hq; rw [show (0 : Int) = S 10 j 0 by omega]; exact hq)⟩
    · refine xa_tabIn (off := 90) (tgt := 105) eX1_figure_15 (by decide) (by decide) (by decide) rfl (by decide) ?_
      refine xs_aload_0 eX1_figure_105 ?_
      refine gr_X1_1 eX1_figure_106 lRX1_15 (fun r106 => ?_)
      exact xa_iret eX1_figure_109 rfl ⟨_, rfl, by first | (rw [xfg1, if_pos (by omega)] at hq; exact hq) | (rw [xfg1, if_neg (by omega)] at hq; exact hq)⟩
    · refine xa_tabIn (off := 95) (tgt := 110) eX1_figure_15 (by decide) (by decide) (by decide) rfl (by decide) ?_
      refine xs_aload_0 eX1_figure_110 ?_
      refine gr_X1_2 eX1_figure_111 lRX1_19 (fun r111 => ?_)
      exact xa_iret eX1_figure_114 rfl ⟨_, rfl, by first | (rw [xfg1, if_pos (by omega)] at hq; exact hq) | (rw [xfg1, if_neg (by omega)] at hq; exact hq)⟩
    · refine xa_tabIn (off := 100) (tgt := 115) eX1_figure_15 (by decide) (by decide) (by decide) rfl (by decide) ?_
      refine xs_aload_0 eX1_figure_115 ?_
      refine gr_X1_3 eX1_figure_116 lRX1_22 (fun r116 => ?_)
      exact xa_iret eX1_figure_119 rfl ⟨_, rfl, by first | (rw [xfg1, if_pos (by omega)] at hq; exact hq) | (rw [xfg1, if_neg (by omega)] at hq; exact hq)⟩
    · refine xa_tabIn (off := 105) (tgt := 120) eX1_figure_15 (by decide) (by decide) (by decide) rfl (by decide) ?_
      refine xs_aload_0 eX1_figure_120 ?_
      refine gr_X1_4 eX1_figure_121 lRX1_25 (fun r121 => ?_)
      exact xa_iret eX1_figure_124 rfl ⟨_, rfl, by first | (rw [xfg1, if_pos (by omega)] at hq; exact hq) | (rw [xfg1, if_neg (by omega)] at hq; exact hq)⟩
    · refine xa_tabIn (off := 110) (tgt := 125) eX1_figure_15 (by decide) (by decide) (by decide) rfl (by decide) ?_
      refine xs_aload_0 eX1_figure_125 ?_
      refine gr_X1_5 eX1_figure_126 lRX1_28 (fun r126 => ?_)
      exact xa_iret eX1_figure_129 rfl ⟨_, rfl, by first | (rw [xfg1, if_pos (by omega)] at hq; exact hq) | (rw [xfg1, if_neg (by omega)] at hq; exact hq)⟩
    · refine xa_tabIn (off := 115) (tgt := 130) eX1_figure_15 (by decide) (by decide) (by decide) rfl (by decide) ?_
      refine xs_iload_3 eX1_figure_130 ?_
      refine xa_if_eq (tgt := 141) eX1_figure_131 (by decide) (by omega) (fun c131 => ?_) (fun c131 => ?_)
      · refine xa_iconst eX1_figure_141 ?_
        exact xa_iret eX1_figure_142 rfl ⟨_, rfl, by first | (rw [xfg1, if_pos (by omega)] at hq; exact hq) | (rw [xfg1, if_neg (by omega)] at hq; exact hq)⟩
      · refine xs_aload_0 eX1_figure_134 ?_
        refine gr_X1_6 eX1_figure_135 lRX1_31 (fun r135 => ?_)
        refine xa_goto (tgt := 142) eX1_figure_138 (by decide) ?_
        exact xa_iret eX1_figure_142 rfl ⟨_, rfl, by first | (rw [xfg1, if_pos (by omega)] at hq; exact hq) | (rw [xfg1, if_neg (by omega)] at hq; exact hq)⟩
    · refine xa_tabIn (off := 128) (tgt := 143) eX1_figure_15 (by decide) (by decide) (by decide) rfl (by decide) ?_
      refine xs_iload_3 eX1_figure_143 ?_
      refine xa_if_eq (tgt := 154) eX1_figure_144 (by decide) (by omega) (fun c144 => ?_) (fun c144 => ?_)
      · refine xa_iconst eX1_figure_154 ?_
        exact xa_iret eX1_figure_155 rfl ⟨_, rfl, by first | (rw [xfg1, if_pos (by omega)] at hq; exact hq) | (rw [xfg1, if_neg (by omega)] at hq; exact hq)⟩
      · refine xs_aload_0 eX1_figure_147 ?_
        refine gr_X1_7 eX1_figure_148 lRX1_34 (fun r148 => ?_)
        refine xa_goto (tgt := 155) eX1_figure_151 (by decide) ?_
        exact xa_iret eX1_figure_155 rfl ⟨_, rfl, by first | (rw [xfg1, if_pos (by omega)] at hq; exact hq) | (rw [xfg1, if_neg (by omega)] at hq; exact hq)⟩
    · refine xa_tabIn (off := 141) (tgt := 156) eX1_figure_15 (by decide) (by decide) (by decide) rfl (by decide) ?_
      refine xs_iload_3 eX1_figure_156 ?_
      refine xa_if_eq (tgt := 167) eX1_figure_157 (by decide) (by omega) (fun c157 => ?_) (fun c157 => ?_)
      · refine xa_iconst eX1_figure_167 ?_
        exact xa_iret eX1_figure_168 rfl ⟨_, rfl, by first | (rw [xfg1, if_pos (by omega)] at hq; exact hq) | (rw [xfg1, if_neg (by omega)] at hq; exact hq)⟩
      · refine xs_aload_0 eX1_figure_160 ?_
        refine gr_X1_8 eX1_figure_161 lRX1_37 (fun r161 => ?_)
        refine xa_goto (tgt := 168) eX1_figure_164 (by decide) ?_
        exact xa_iret eX1_figure_168 rfl ⟨_, rfl, by first | (rw [xfg1, if_pos (by omega)] at hq; exact hq) | (rw [xfg1, if_neg (by omega)] at hq; exact hq)⟩
    · refine xa_tabIn (off := 154) (tgt := 169) eX1_figure_15 (by decide) (by decide) (by decide) rfl (by decide) ?_
      refine xs_aload_0 eX1_figure_169 ?_
      refine gr_X1_9 eX1_figure_170 lRX1_40 (fun r170 => ?_)
      exact xa_iret eX1_figure_173 rfl ⟨_, rfl, by first | (rw [xfg1, if_pos (by omega)] at hq; exact hq) | (rw [xfg1, if_neg (by omega)] at hq; exact hq)⟩
    · refine xa_tabIn (off := 159) (tgt := 174) eX1_figure_15 (by decide) (by decide) (by decide) rfl (by decide) ?_
      refine xs_aload_0 eX1_figure_174 ?_
      refine gr_X1_10 eX1_figure_175 lRX1_43 (fun r175 => ?_)
      exact xa_iret eX1_figure_178 rfl ⟨_, rfl, by first | (rw [xfg1, if_pos (by omega)] at hq; exact hq) | (rw [xfg1, if_neg (by omega)] at hq; exact hq)⟩
    · refine xa_tabIn (off := 164) (tgt := 179) eX1_figure_15 (by decide) (by decide) (by decide) rfl (by decide) ?_
      refine xs_aload_0 eX1_figure_179 ?_
      refine gr_X1_11 eX1_figure_180 lRX1_46 (fun r180 => ?_)
      exact xa_iret eX1_figure_183 rfl ⟨_, rfl, by first | (rw [xfg1, if_pos (by omega)] at hq; exact hq) | (rw [xfg1, if_neg (by omega)] at hq; exact hq)⟩
    · refine xa_tabIn (off := 169) (tgt := 184) eX1_figure_15 (by decide) (by decide) (by decide) rfl (by decide) ?_
      refine xs_aload_0 eX1_figure_184 ?_
      refine gr_X1_12 eX1_figure_185 lRX1_49 (fun r185 => ?_)
      exact xa_iret eX1_figure_188 rfl ⟨_, rfl, by first | (rw [xfg1, if_pos (by omega)] at hq; exact hq) | (rw [xfg1, if_neg (by omega)] at hq; exact hq)⟩
    · refine xa_tabIn (off := 174) (tgt := 189) eX1_figure_15 (by decide) (by decide) (by decide) rfl (by decide) ?_
      refine xs_aload_0 eX1_figure_189 ?_
      refine gr_X1_13 eX1_figure_190 lRX1_52 (fun r190 => ?_)
      exact xa_iret eX1_figure_193 rfl ⟨_, rfl, by first | (rw [xfg1, if_pos (by omega)] at hq; exact hq) | (rw [xfg1, if_neg (by omega)] at hq; exact hq)⟩
    · refine xa_tabIn (off := 179) (tgt := 194) eX1_figure_15 (by decide) (by decide) (by decide) rfl (by decide) ?_
      refine xs_aload_0 eX1_figure_194 ?_
      refine gr_X1_14 eX1_figure_195 lRX1_55 (fun r195 => ?_)
      exact xa_iret eX1_figure_198 rfl ⟨_, rfl, by first | (rw [xfg1, if_pos (by omega)] at hq; exact hq) | (rw [xfg1, if_neg (by omega)] at hq; exact hq)⟩
    · refine xa_tabIn (off := 184) (tgt := 199) eX1_figure_15 (by decide) (by decide) (by decide) rfl (by decide) ?_
      refine xs_aload_0 eX1_figure_199 ?_
      refine gr_X1_15 eX1_figure_200 lRX1_58 (fun r200 => ?_)
      exact xa_iret eX1_figure_203 rfl ⟨_, rfl, by first | (rw [xfg1, if_pos (by omega)] at hq; exact hq) | (rw [xfg1, if_neg (by omega)] at hq; exact hq)⟩
    · refine xa_tabOut (tgt := 204) eX1_figure_15 (by decide) (by decide) (by decide) ?_
      refine xs_aload_0 eX1_figure_204 ?_
      refine gr_X1_16 eX1_figure_205 lRX1_61 (fun r205 => ?_)
      exact xa_iret eX1_figure_208 rfl ⟨_, rfl, by first | (rw [xfg1, if_pos (by omega)] at hq; exact hq) | (rw [xfg1, if_neg (by omega)] at hq; exact hq)⟩
  · refine xa_iconst eX1_figure_8 ?_
    refine xa_goto (tgt := 13) eX1_figure_9 (by decide) ?_
    refine xs_istore_3 eX1_figure_13 rfl ?_
    refine xs_iload_1 eX1_figure_14 ?_
    rcases (show a = 0 ∨ a = 1 ∨ a = 2 ∨ a = 3 ∨ a = 4 ∨ a = 5 ∨ a = 6 ∨ a = 7 ∨ a = 8 ∨ a = 9 ∨ a = 10 ∨ a = 11 ∨ a = 12 ∨ a = 13 ∨ a = 14 ∨ a = 15 ∨ a = 16 by omega) with rfl | rfl | rfl | rfl | rfl | rfl | rfl | rfl | rfl | rfl | rfl | rfl | rfl | rfl | rfl | rfl | rfl
    · refine xa_tabIn (off := 77) (tgt := 92) eX1_figure_15 (by decide) (by decide) (by decide) rfl (by decide) ?_
      refine xs_aload_0 eX1_figure_92 ?_
      refine gr_X1_0 eX1_figure_93 lRX1_9 (fun r93 => ?_)
      refine xa_if_eq (tgt := 103) eX1_figure_96 (by decide) (by omega) (fun c96 => ?_) (fun c96 => ?_)
      · refine xa_iconst eX1_figure_103 ?_
        exact xa_iret eX1_figure_104 rfl ⟨_, rfl, by first | (rw [xfg1, if_neg (by omega)] at hq; rw [show (1 : Int) = S 10 j 0 by omega]; exact hq) | (rw [xfg1, if_neg (by omega)] at hq; rw [show (0 : Int) = S 10 j 0 by omega]; exact hq)⟩
      · refine xa_iconst eX1_figure_99 ?_
        refine xa_goto (tgt := 104) eX1_figure_100 (by decide) ?_
        exact xa_iret eX1_figure_104 rfl ⟨_, rfl, by first | (rw [xfg1, if_neg (by omega)] at hq; rw [show (1 : Int) = S 10 j 0 by omega]; exact hq) | (rw [xfg1, if_neg (by omega)] at hq; rw [show (0 : Int) = S 10 j 0 by omega]; exact hq)⟩
    · refine xa_tabIn (off := 90) (tgt := 105) eX1_figure_15 (by decide) (by decide) (by decide) rfl (by decide) ?_
      refine xs_aload_0 eX1_figure_105 ?_
      refine gr_X1_1 eX1_figure_106 lRX1_15 (fun r106 => ?_)
      exact xa_iret eX1_figure_109 rfl ⟨_, rfl, by first | (rw [xfg1, if_pos (by omega)] at hq; exact hq) | (rw [xfg1, if_neg (by omega)] at hq; exact hq)⟩
    · refine xa_tabIn (off := 95) (tgt := 110) eX1_figure_15 (by decide) (by decide) (by decide) rfl (by decide) ?_
      refine xs_aload_0 eX1_figure_110 ?_
      refine gr_X1_2 eX1_figure_111 lRX1_19 (fun r111 => ?_)
      exact xa_iret eX1_figure_114 rfl ⟨_, rfl, by first | (rw [xfg1, if_pos (by omega)] at hq; exact hq) | (rw [xfg1, if_neg (by omega)] at hq; exact hq)⟩
    · refine xa_tabIn (off := 100) (tgt := 115) eX1_figure_15 (by decide) (by decide) (by decide) rfl (by decide) ?_
      refine xs_aload_0 eX1_figure_115 ?_
      refine gr_X1_3 eX1_figure_116 lRX1_22 (fun r116 => ?_)
      exact xa_iret eX1_figure_119 rfl ⟨_, rfl, by first | (rw [xfg1, if_pos (by omega)] at hq; exact hq) | (rw [xfg1, if_neg (by omega)] at hq; exact hq)⟩
    · refine xa_tabIn (off := 105) (tgt := 120) eX1_figure_15 (by decide) (by decide) (by decide) rfl (by decide) ?_
      refine xs_aload_0 eX1_figure_120 ?_
      refine gr_X1_4 eX1_figure_121 lRX1_25 (fun r121 => ?_)
      exact xa_iret eX1_figure_124 rfl ⟨_, rfl, by first | (rw [xfg1, if_pos (by omega)] at hq; exact hq) | (rw [xfg1, if_neg (by omega)] at hq; exact hq)⟩
    · refine xa_tabIn (off := 110) (tgt := 125) eX1_figure_15 (by decide) (by decide) (by decide) rfl (by decide) ?_
      refine xs_aload_0 eX1_figure_125 ?_
      refine gr_X1_5 eX1_figure_126 lRX1_28 (fun r126 => ?_)
      exact xa_iret eX1_figure_129 rfl ⟨_, rfl, by first | (rw [xfg1, if_pos (by omega)] at hq; exact hq) | (rw [xfg1, if_neg (by omega)] at hq; exact hq)⟩
    · refine xa_tabIn (off := 115) (tgt := 130) eX1_figure_15 (by decide) (by decide) (by decide) rfl (by decide) ?_
      refine xs_iload_3 eX1_figure_130 ?_
      refine xa_if_eq (tgt := 141) eX1_figure_131 (by decide) (by omega) (fun c131 => ?_) (fun c131 => ?_)
      · refine xa_iconst eX1_figure_141 ?_
        exact xa_iret eX1_figure_142 rfl ⟨_, rfl, by first | (rw [xfg1, if_pos (by omega)] at hq; exact hq) | (rw [xfg1, if_neg (by omega)] at hq; exact hq)⟩
      · refine xs_aload_0 eX1_figure_134 ?_
        refine gr_X1_6 eX1_figure_135 lRX1_31 (fun r135 => ?_)
        refine xa_goto (tgt := 142) eX1_figure_138 (by decide) ?_
        exact xa_iret eX1_figure_142 rfl ⟨_, rfl, by first | (rw [xfg1, if_pos (by omega)] at hq; exact hq) | (rw [xfg1, if_neg (by omega)] at hq; exact hq)⟩
    · refine xa_tabIn (off := 128) (tgt := 143) eX1_figure_15 (by decide) (by decide) (by decide) rfl (by decide) ?_
      refine xs_iload_3 eX1_figure_143 ?_
      refine xa_if_eq (tgt := 154) eX1_figure_144 (by decide) (by omega) (fun c144 => ?_) (fun c144 => ?_)
      · refine xa_iconst eX1_figure_154 ?_
        exact xa_iret eX1_figure_155 rfl ⟨_, rfl, by first | (rw [xfg1, if_pos (by omega)] at hq; exact hq) | (rw [xfg1, if_neg (by omega)] at hq; exact hq)⟩
      · refine xs_aload_0 eX1_figure_147 ?_
        refine gr_X1_7 eX1_figure_148 lRX1_34 (fun r148 => ?_)
        refine xa_goto (tgt := 155) eX1_figure_151 (by decide) ?_
        exact xa_iret eX1_figure_155 rfl ⟨_, rfl, by first | (rw [xfg1, if_pos (by omega)] at hq; exact hq) | (rw [xfg1, if_neg (by omega)] at hq; exact hq)⟩
    · refine xa_tabIn (off := 141) (tgt := 156) eX1_figure_15 (by decide) (by decide) (by decide) rfl (by decide) ?_
      refine xs_iload_3 eX1_figure_156 ?_
      refine xa_if_eq (tgt := 167) eX1_figure_157 (by decide) (by omega) (fun c157 => ?_) (fun c157 => ?_)
      · refine xa_iconst eX1_figure_167 ?_
        exact xa_iret eX1_figure_168 rfl ⟨_, rfl, by first | (rw [xfg1, if_pos (by omega)] at hq; exact hq) | (rw [xfg1, if_neg (by omega)] at hq; exact hq)⟩
      · refine xs_aload_0 eX1_figure_160 ?_
        refine gr_X1_8 eX1_figure_161 lRX1_37 (fun r161 => ?_)
        refine xa_goto (tgt := 168) eX1_figure_164 (by decide) ?_
        exact xa_iret eX1_figure_168 rfl ⟨_, rfl, by first | (rw [xfg1, if_pos (by omega)] at hq; exact hq) | (rw [xfg1, if_neg (by omega)] at hq; exact hq)⟩
    · refine xa_tabIn (off := 154) (tgt := 169) eX1_figure_15 (by decide) (by decide) (by decide) rfl (by decide) ?_
      refine xs_aload_0 eX1_figure_169 ?_
      refine gr_X1_9 eX1_figure_170 lRX1_40 (fun r170 => ?_)
      exact xa_iret eX1_figure_173 rfl ⟨_, rfl, by first | (rw [xfg1, if_pos (by omega)] at hq; exact hq) | (rw [xfg1, if_neg (by omega)] at hq; exact hq)⟩
    · refine xa_tabIn (off := 159) (tgt := 174) eX1_figure_15 (by decide) (by decide) (by decide) rfl (by decide) ?_
      refine xs_aload_0 eX1_figure_174 ?_
      refine gr_X1_10 eX1_figure_175 lRX1_43 (fun r175 => ?_)
      exact xa_iret eX1_figure_178 rfl ⟨_, rfl, by first | (rw [xfg1, if_pos (by omega)] at hq; exact hq) | (rw [xfg1, if_neg (by omega)] at hq; exact hq)⟩
    · refine xa_tabIn (off := 164) (tgt := 179) eX1_figure_15 (by decide) (by decide) (by decide) rfl (by decide) ?_
      refine xs_aload_0 eX1_figure_179 ?_
      refine gr_X1_11 eX1_figure_180 lRX1_46 (fun r180 => ?_)
      exact xa_iret eX1_figure_183 rfl ⟨_, rfl, by first | (rw [xfg1, if_pos (by omega)] at hq; exact hq) | (rw [xfg1, if_neg (by omega)] at hq; exact hq)⟩
    · refine xa_tabIn (off := 169) (tgt := 184) eX1_figure_15 (by decide) (by decide) (by decide) rfl (by decide) ?_
      refine xs_aload_0 eX1_figure_184 ?_
      refine gr_X1_12 eX1_figure_185 lRX1_49 (fun r185 => ?_)
      exact xa_iret eX1_figure_188 rfl ⟨_, rfl, by first | (rw [xfg1, if_pos (by omega)] at hq; exact hq) | (rw [xfg1, if_neg (by omega)] at hq; exact hq)⟩
    · refine xa_tabIn (off := 174) (tgt := 189) eX1_figure_15 (by decide) (by decide) (by decide) rfl (by decide) ?_
      refine xs_aload_0 eX1_figure_189 ?_
      refine gr_X1_13 eX1_figure_190 lRX1_52 (fun r190 => ?_)
      exact xa_iret eX1_figure_193 rfl ⟨_, rfl, by first | (rw [xfg1, if_pos (by omega)] at hq; exact hq) | (rw [xfg1, if_neg (by omega)] at hq; exact hq)⟩
    · refine xa_tabIn (off := 179) (tgt := 194) eX1_figure_15 (by decide) (by decide) (by decide) rfl (by decide) ?_
      refine xs_aload_0 eX1_figure_194 ?_
      refine gr_X1_14 eX1_figure_195 lRX1_55 (fun r195 => ?_)
      exact xa_iret eX1_figure_198 rfl ⟨_, rfl, by first | (rw [xfg1, if_pos (by omega)] at hq; exact hq) | (rw [xfg1, if_neg (by omega)] at hq; exact hq)⟩
    · refine xa_tabIn (off := 184) (tgt := 199) eX1_figure_15 (by decide) (by decide) (by decide) rfl (by decide) ?_
      refine xs_aload_0 eX1_figure_199 ?_
      refine gr_X1_15 eX1_figure_200 lRX1_58 (fun r200 => ?_)
      exact xa_iret eX1_figure_203 rfl ⟨_, rfl, by first | (rw [xfg1, if_pos (by omega)] at hq; exact hq) | (rw [xfg1, if_neg (by omega)] at hq; exact hq)⟩
    · refine xa_tabOut (tgt := 204) eX1_figure_15 (by decide) (by decide) (by decide) ?_
      refine xs_aload_0 eX1_figure_204 ?_
      refine gr_X1_16 eX1_figure_205 lRX1_61 (fun r205 => ?_)
      exact xa_iret eX1_figure_208 rfl ⟨_, rfl, by first | (rw [xfg1, if_pos (by omega)] at hq; exact hq) | (rw [xfg1, if_neg (by omega)] at hq; exact hq)⟩

