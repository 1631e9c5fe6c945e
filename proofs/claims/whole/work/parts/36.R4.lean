/-! PromiseMarketModel: the lines' timeline -/
theorem relL_0 (t : Int) (S : xS) : relL 0 t S = S := by funext k j f; unfold relL; rw [if_neg (by omega)]
theorem relL_i {i : Nat} {t : Int} {S : xS} {k l : Nat} (h : i ≤ l) : relL i t S k 0 l = S k 0 l := by unfold relL; rw [if_neg (by omega)]
theorem relL_k {i : Nat} {t : Int} {S : xS} {k : Nat} (h : k < 38 ∨ 40 < k) : relL i t S k = S k := by funext j f; unfold relL; rw [if_neg (by omega)]
theorem relL_s1 {i : Nat} {t : Int} {S : xS} (h : S 38 0 i = t) : up (up (up (relL i t S) 39 0 i (S 36 0 i)) 40 0 i (t + S 37 0 i)) 38 0 i (t + S 35 0 i) = relL (i + 1) t S := by
  funext k j f
  by_cases c : j = 0 ∧ f = i ∧ 38 ≤ k ∧ k ≤ 40
  · obtain ⟨rfl, rfl, c1, c2⟩ := c
    have hk : k = 38 ∨ k = 39 ∨ k = 40 := by omega
    rcases hk with rfl | rfl | rfl
    · rw [up_same]; unfold relL; rw [if_pos ⟨rfl, by omega, h, by decide, by decide⟩, if_pos rfl]
    · rw [up_k (by decide), up_k (by decide), up_same]; unfold relL; rw [if_pos ⟨rfl, by omega, h, by decide, by decide⟩, if_neg (by decide), if_pos rfl]
    · rw [up_k (by decide), up_same]; unfold relL; rw [if_pos ⟨rfl, by omega, h, by decide, by decide⟩, if_neg (by decide), if_neg (by decide)]
  · rw [up_app, if_neg (by omega), up_app, if_neg (by omega), up_app, if_neg (by omega)]
    unfold relL
    by_cases c2 : j = 0 ∧ f < i ∧ S 38 0 f = t ∧ 38 ≤ k ∧ k ≤ 40
    · rw [if_pos c2, if_pos (show j = 0 ∧ f < i + 1 ∧ S 38 0 f = t ∧ 38 ≤ k ∧ k ≤ 40 from ⟨c2.1, by omega, c2.2.2⟩)]
    · rw [if_neg c2, if_neg (fun z => c2 ⟨z.1, by omega, z.2.2⟩)]
theorem relL_s0 {i : Nat} {t : Int} {S : xS} (h : S 38 0 i ≠ t) : relL (i + 1) t S = relL i t S := by
  funext k j f
  unfold relL
  by_cases c2 : j = 0 ∧ f < i ∧ S 38 0 f = t ∧ 38 ≤ k ∧ k ≤ 40
  · rw [if_pos c2, if_pos (by omega)]
  · rw [if_neg c2, if_neg (fun z => c2 ⟨z.1, by
      by_cases e : f = i
      · subst e; exact absurd z.2.2.1 h
      · omega, z.2.2⟩)]
theorem relL_fr {L : Nat} {t : Int} {S : xS} : lnf (relL L t S) S := ⟨fun k j h1 h2 => by rw [relL_k (by omega)], fun j f _ _ => by rw [relL_k (by omega)]⟩
def okQ (t : Int) (S : xS) : Nat → Int
  | 0 => 1
  | l + 1 => if S 39 0 l = 0 ∨ t + 1 < S 40 0 l then okQ t S l else 0
theorem okQ_1 {t : Int} {S : xS} : ∀ {L : Nat}, (okQ t S L = 1 ↔ okL L t S) ∧ (okQ t S L = 0 ∨ okQ t S L = 1)
  | 0 => ⟨⟨fun _ l hl => absurd hl (by omega), fun _ => rfl⟩, Or.inr rfl⟩
  | L + 1 => by
    have ih := okQ_1 (t := t) (S := S) (L := L)
    by_cases c : S 39 0 L = 0 ∨ t + 1 < S 40 0 L
    · rw [okQ, if_pos c]
      refine ⟨⟨fun h l hl => ?_, fun h => ih.1.mpr (fun l hl => h l (by omega))⟩, ih.2⟩
      by_cases e : l = L
      · subst e; exact c
      · exact ih.1.mp h l (by omega)
    · rw [okQ, if_neg c]
      exact ⟨⟨fun h => absurd h (by decide), fun h => absurd (h L (by omega)) c⟩, Or.inl rfl⟩
theorem and_1 {a : Int} (h : a = 0 ∨ a = 1) : (Int32.ofInt a &&& Int32.ofInt 1).toInt = a := by rcases h with rfl | rfl <;> decide
theorem and_0 {a : Int} (h : a = 0 ∨ a = 1) : (Int32.ofInt a &&& Int32.ofInt 0).toInt = 0 := by rcases h with rfl | rfl <;> decide
set_option maxHeartbeats 400000 in
theorem f_X8_release {w : xW} {S : xS} {B : String → xS → Prop} {A : xS → Prop} {t : Int} {L : Nat} (hL : S 30 0 11 = (L : Int)) (hL21 : L ≤ 21) (ht : 0 ≤ t ∧ t ≤ 2000000) (hr : ∀ l, l < L → (-1 ≤ S 37 0 l ∧ S 37 0 l ≤ 200) ∧ (-1 ≤ S 35 0 l ∧ S 35 0 l ≤ 200)) (hq : A (relL L t S)) : Kv w mX8_release yX8_release 0 0 [xp 30 0, xi t] S A B := by
  refine K.of rfl rfl rfl rfl (Nat.le_of_ble_eq_true rfl) rfl ?_
  have lp : ∀ i : Nat, i ≤ L → ∀ a1 : Int, X w mX8_release (xTG w (fun v S' => v = none ∧ A S') B) 0 0 2 [xp 30 0, xi t, xi (i : Int)] [] (relL i t S) := by
    refine nloop (L) (fun i hi ih a1 => ?_)
    have eL : relL i t S 30 0 11 = (L : Int) := by rw [relL_k (by decide)]; exact hL
    have eI : ∀ k, relL i t S k 0 i = S k 0 i := fun k => relL_i (Nat.le_refl _)
    have eP : ∀ {k}, k < 38 → relL i t S k = S k := fun h => relL_k (Or.inl h)
    have hri : i < L → (-1 ≤ S 37 0 i ∧ S 37 0 i ≤ 200) ∧ (-1 ≤ S 35 0 i ∧ S 35 0 i ≤ 200) := fun z => hr i z
    refine xs_iload_2 eX8_release_2 ?_
    refine xs_aload_0 eX8_release_3 ?_
    refine gr_X8_11 eX8_release_4 lRX8_140 (fun r4 => ?_)
    try simp (decide := true) only [up_app, if_false, false_and, and_false, eL, eI, relL_k, show (0 : Int).toNat = 0 from rfl, show (1 : Int).toNat = 1 from rfl, show (2 : Int).toNat = 2 from rfl, show (3 : Int).toNat = 3 from rfl, show (4 : Int).toNat = 4 from rfl, show (5 : Int).toNat = 5 from rfl, show (6 : Int).toNat = 6 from rfl, show (7 : Int).toNat = 7 from rfl, show (8 : Int).toNat = 8 from rfl, show (9 : Int).toNat = 9 from rfl, show (10 : Int).toNat = 10 from rfl, show (11 : Int).toNat = 11 from rfl, show (12 : Int).toNat = 12 from rfl, show (13 : Int).toNat = 13 from rfl, show (14 : Int).toNat = 14 from rfl, Int.toNat_natCast] at r4 ⊢
    refine xa_icmp_ge (tgt := 66) eX8_release_7 (by decide) (by omega) (by omega) (fun c7 => ?_) (fun c7 => ?_)
    · exact xa_vret eX8_release_66 rfl ⟨rfl, by rw [show i = L by omega]; exact hq⟩
    · refine xs_aload_0 eX8_release_10 ?_
      refine g_X8_8 eX8_release_11 lRX8_33 ?_
      refine xs_iload_2 eX8_release_14 ?_
      refine gar_38 eX8_release_15 (by omega) (fun r15 => ?_)
      try simp (decide := true) only [up_app, if_false, false_and, and_false, eL, eI, relL_k, show (0 : Int).toNat = 0 from rfl, show (1 : Int).toNat = 1 from rfl, show (2 : Int).toNat = 2 from rfl, show (3 : Int).toNat = 3 from rfl, show (4 : Int).toNat = 4 from rfl, show (5 : Int).toNat = 5 from rfl, show (6 : Int).toNat = 6 from rfl, show (7 : Int).toNat = 7 from rfl, show (8 : Int).toNat = 8 from rfl, show (9 : Int).toNat = 9 from rfl, show (10 : Int).toNat = 10 from rfl, show (11 : Int).toNat = 11 from rfl, show (12 : Int).toNat = 12 from rfl, show (13 : Int).toNat = 13 from rfl, show (14 : Int).toNat = 14 from rfl, Int.toNat_natCast] at r15 ⊢
      refine xs_iload_1 eX8_release_16 ?_
      refine xa_icmp_ne (tgt := 60) eX8_release_17 (by decide) (by omega) (by omega) (fun c17 => ?_) (fun c17 => ?_)
      · refine xs_iinc_2 eX8_release_60 rfl ?_
        refine xa_goto (tgt := 2) eX8_release_63 (by decide) ?_
        have h9 := ih (i + 1) (by omega) (by omega) a1
        rw [relL_s0 c17] at h9
        exact h9
      · refine xs_aload_0 eX8_release_20 ?_
        refine g_X8_9 eX8_release_21 lRX8_36 ?_
        refine xs_iload_2 eX8_release_24 ?_
        refine xs_aload_0 eX8_release_25 ?_
        refine g_X8_6 eX8_release_26 lRX8_27 ?_
        refine xs_iload_2 eX8_release_29 ?_
        refine gar_36 eX8_release_30 (by omega) (fun r30 => ?_)
        try simp (decide := true) only [up_app, if_false, false_and, and_false, eL, eI, relL_k, show (0 : Int).toNat = 0 from rfl, show (1 : Int).toNat = 1 from rfl, show (2 : Int).toNat = 2 from rfl, show (3 : Int).toNat = 3 from rfl, show (4 : Int).toNat = 4 from rfl, show (5 : Int).toNat = 5 from rfl, show (6 : Int).toNat = 6 from rfl, show (7 : Int).toNat = 7 from rfl, show (8 : Int).toNat = 8 from rfl, show (9 : Int).toNat = 9 from rfl, show (10 : Int).toNat = 10 from rfl, show (11 : Int).toNat = 11 from rfl, show (12 : Int).toNat = 12 from rfl, show (13 : Int).toNat = 13 from rfl, show (14 : Int).toNat = 14 from rfl, Int.toNat_natCast] at r30 ⊢
        refine pa_39 eX8_release_31 (by omega) (by omega) ?_
        refine xs_aload_0 eX8_release_32 ?_
        refine g_X8_10 eX8_release_33 lRX8_39 ?_
        refine xs_iload_2 eX8_release_36 ?_
        refine xs_iload_1 eX8_release_37 ?_
        refine xs_aload_0 eX8_release_38 ?_
        refine g_X8_7 eX8_release_39 lRX8_30 ?_
        refine xs_iload_2 eX8_release_42 ?_
        refine gar_37 eX8_release_43 (by omega) (fun r43 => ?_)
        try simp (decide := true) only [up_app, if_false, false_and, and_false, eL, eI, relL_k, show (0 : Int).toNat = 0 from rfl, show (1 : Int).toNat = 1 from rfl, show (2 : Int).toNat = 2 from rfl, show (3 : Int).toNat = 3 from rfl, show (4 : Int).toNat = 4 from rfl, show (5 : Int).toNat = 5 from rfl, show (6 : Int).toNat = 6 from rfl, show (7 : Int).toNat = 7 from rfl, show (8 : Int).toNat = 8 from rfl, show (9 : Int).toNat = 9 from rfl, show (10 : Int).toNat = 10 from rfl, show (11 : Int).toNat = 11 from rfl, show (12 : Int).toNat = 12 from rfl, show (13 : Int).toNat = 13 from rfl, show (14 : Int).toNat = 14 from rfl, Int.toNat_natCast] at r43 ⊢
        refine xa_iadd eX8_release_44 ?_
        refine pa_40 eX8_release_45 (by omega) (by omega) ?_
        refine xs_aload_0 eX8_release_46 ?_
        refine g_X8_8 eX8_release_47 lRX8_33 ?_
        refine xs_iload_2 eX8_release_50 ?_
        refine xs_iload_1 eX8_release_51 ?_
        refine xs_aload_0 eX8_release_52 ?_
        refine g_X8_5 eX8_release_53 lRX8_23 ?_
        refine xs_iload_2 eX8_release_56 ?_
        refine gar_35 eX8_release_57 (by omega) (fun r57 => ?_)
        try simp (decide := true) only [up_app, if_false, false_and, and_false, eL, eI, relL_k, show (0 : Int).toNat = 0 from rfl, show (1 : Int).toNat = 1 from rfl, show (2 : Int).toNat = 2 from rfl, show (3 : Int).toNat = 3 from rfl, show (4 : Int).toNat = 4 from rfl, show (5 : Int).toNat = 5 from rfl, show (6 : Int).toNat = 6 from rfl, show (7 : Int).toNat = 7 from rfl, show (8 : Int).toNat = 8 from rfl, show (9 : Int).toNat = 9 from rfl, show (10 : Int).toNat = 10 from rfl, show (11 : Int).toNat = 11 from rfl, show (12 : Int).toNat = 12 from rfl, show (13 : Int).toNat = 13 from rfl, show (14 : Int).toNat = 14 from rfl, Int.toNat_natCast] at r57 ⊢
        refine xa_iadd eX8_release_58 ?_
        refine pa_38 eX8_release_59 (by omega) (by omega) ?_
        refine xs_iinc_2 eX8_release_60 rfl ?_
        refine xa_goto (tgt := 2) eX8_release_63 (by decide) ?_
        have h9 := ih (i + 1) (by omega) (by omega) a1
        rw [← relL_s1 c17] at h9
        exact h9
  refine xa_iconst eX8_release_0 ?_
  refine xs_istore_2 eX8_release_1 rfl ?_
  have h9 := lp 0 (by omega) 0
  rw [relL_0] at h9
  exact h9
set_option maxHeartbeats 400000 in
theorem f_X8_earliestLine {w : xW} {S : xS} {B : String → xS → Prop} {A : Int → xS → Prop} {L : Nat} (hL : S 30 0 11 = (L : Int)) (hL21 : L ≤ 21) (hq0 : bstL S L = none → A (-1) S) (hq1 : ∀ b : Nat, bstL S L = some b → A (b : Int) S) : Ki w mX8_earliestLine yX8_earliestLine 0 0 [xp 30 0] S A B := by
  refine K.of rfl rfl rfl rfl (Nat.le_of_ble_eq_true rfl) rfl ?_
  have lp : ∀ i : Nat, i ≤ L →  X w mX8_earliestLine (xTG w (fun v S' => ∃ a, v = some (xi a) ∧ A a S') B) 0 0 4 [xp 30 0, (match bstL S i with | none => xi (-1) | some b => xi (b : Int)), xi (i : Int)] [] S := by
    refine nloop (L) (fun i hi ih => ?_)
    cases hI : bstL S i with
    | none =>
      refine xs_iload_2 eX8_earliestLine_4 ?_
      refine xs_aload_0 eX8_earliestLine_5 ?_
      refine gr_X8_11 eX8_earliestLine_6 lRX8_140 (fun r6 => ?_)
      try simp (decide := true) only [hL, show (0 : Int).toNat = 0 from rfl, show (1 : Int).toNat = 1 from rfl, show (2 : Int).toNat = 2 from rfl, show (3 : Int).toNat = 3 from rfl, show (4 : Int).toNat = 4 from rfl, show (5 : Int).toNat = 5 from rfl, show (6 : Int).toNat = 6 from rfl, show (7 : Int).toNat = 7 from rfl, show (8 : Int).toNat = 8 from rfl, show (9 : Int).toNat = 9 from rfl, show (10 : Int).toNat = 10 from rfl, show (11 : Int).toNat = 11 from rfl, show (12 : Int).toNat = 12 from rfl, show (13 : Int).toNat = 13 from rfl, show (14 : Int).toNat = 14 from rfl, Int.toNat_natCast] at r6 ⊢
      refine xa_icmp_ge (tgt := 49) eX8_earliestLine_9 (by decide) (by omega) (by omega) (fun c9 => ?_) (fun c9 => ?_)
      · refine xs_iload_1 eX8_earliestLine_49 ?_
        exact xa_iret eX8_earliestLine_50 rfl ⟨_, rfl, hq0 (by rw [show L = i by omega]; exact hI)⟩
      · refine xs_aload_0 eX8_earliestLine_12 ?_
        refine g_X8_9 eX8_earliestLine_13 lRX8_36 ?_
        refine xs_iload_2 eX8_earliestLine_16 ?_
        refine gar_39 eX8_earliestLine_17 (by omega) (fun r17 => ?_)
        try simp (decide := true) only [hL, show (0 : Int).toNat = 0 from rfl, show (1 : Int).toNat = 1 from rfl, show (2 : Int).toNat = 2 from rfl, show (3 : Int).toNat = 3 from rfl, show (4 : Int).toNat = 4 from rfl, show (5 : Int).toNat = 5 from rfl, show (6 : Int).toNat = 6 from rfl, show (7 : Int).toNat = 7 from rfl, show (8 : Int).toNat = 8 from rfl, show (9 : Int).toNat = 9 from rfl, show (10 : Int).toNat = 10 from rfl, show (11 : Int).toNat = 11 from rfl, show (12 : Int).toNat = 12 from rfl, show (13 : Int).toNat = 13 from rfl, show (14 : Int).toNat = 14 from rfl, Int.toNat_natCast] at r17 ⊢
        refine xa_if_le (tgt := 43) eX8_earliestLine_18 (by decide) (by omega) (fun c18 => ?_) (fun c18 => ?_)
        · refine xs_iinc_2 eX8_earliestLine_43 rfl ?_
          refine xa_goto (tgt := 4) eX8_earliestLine_46 (by decide) ?_
          have e : bstL S (i + 1) = none := by rw [bstL, if_neg (by omega)]; exact hI
          have h9 := ih (i + 1) (by omega) (by omega)
          rw [e] at h9
          exact h9
        · refine xs_iload_1 eX8_earliestLine_21 ?_
          refine xa_iconst eX8_earliestLine_22 ?_
          refine xa_icmp_eq (tgt := 41) eX8_earliestLine_23 (by decide) (by omega) (by decide) (fun c23 => ?_) (fun c23 => ?_)
          · refine xs_iload_2 eX8_earliestLine_41 ?_
            refine xs_istore_1 eX8_earliestLine_42 rfl ?_
            refine xs_iinc_2 eX8_earliestLine_43 rfl ?_
            refine xa_goto (tgt := 4) eX8_earliestLine_46 (by decide) ?_
            have e : bstL S (i + 1) = (some i) := by rw [bstL, if_pos c18, hI]
            have h9 := ih (i + 1) (by omega) (by omega)
            rw [e] at h9
            exact h9
          · exact absurd rfl c23
    | some b =>
      have hb := bstL_lt hI
      refine xs_iload_2 eX8_earliestLine_4 ?_
      refine xs_aload_0 eX8_earliestLine_5 ?_
      refine gr_X8_11 eX8_earliestLine_6 lRX8_140 (fun r6 => ?_)
      try simp (decide := true) only [hL, show (0 : Int).toNat = 0 from rfl, show (1 : Int).toNat = 1 from rfl, show (2 : Int).toNat = 2 from rfl, show (3 : Int).toNat = 3 from rfl, show (4 : Int).toNat = 4 from rfl, show (5 : Int).toNat = 5 from rfl, show (6 : Int).toNat = 6 from rfl, show (7 : Int).toNat = 7 from rfl, show (8 : Int).toNat = 8 from rfl, show (9 : Int).toNat = 9 from rfl, show (10 : Int).toNat = 10 from rfl, show (11 : Int).toNat = 11 from rfl, show (12 : Int).toNat = 12 from rfl, show (13 : Int).toNat = 13 from rfl, show (14 : Int).toNat = 14 from rfl, Int.toNat_natCast] at r6 ⊢
      refine xa_icmp_ge (tgt := 49) eX8_earliestLine_9 (by decide) (by omega) (by omega) (fun c9 => ?_) (fun c9 => ?_)
      · refine xs_iload_1 eX8_earliestLine_49 ?_
        exact xa_iret eX8_earliestLine_50 rfl ⟨_, rfl, hq1 b (by rw [show L = i by omega]; exact hI)⟩
      · refine xs_aload_0 eX8_earliestLine_12 ?_
        refine g_X8_9 eX8_earliestLine_13 lRX8_36 ?_
        refine xs_iload_2 eX8_earliestLine_16 ?_
        refine gar_39 eX8_earliestLine_17 (by omega) (fun r17 => ?_)
        try simp (decide := true) only [hL, show (0 : Int).toNat = 0 from rfl, show (1 : Int).toNat = 1 from rfl, show (2 : Int).toNat = 2 from rfl, show (3 : Int).toNat = 3 from rfl, show (4 : Int).toNat = 4 from rfl, show (5 : Int).toNat = 5 from rfl, show (6 : Int).toNat = 6 from rfl, show (7 : Int).toNat = 7 from rfl, show (8 : Int).toNat = 8 from rfl, show (9 : Int).toNat = 9 from rfl, show (10 : Int).toNat = 10 from rfl, show (11 : Int).toNat = 11 from rfl, show (12 : Int).toNat = 12 from rfl, show (13 : Int).toNat = 13 from rfl, show (14 : Int).toNat = 14 from rfl, Int.toNat_natCast] at r17 ⊢
        refine xa_if_le (tgt := 43) eX8_earliestLine_18 (by decide) (by omega) (fun c18 => ?_) (fun c18 => ?_)
        · refine xs_iinc_2 eX8_earliestLine_43 rfl ?_
          refine xa_goto (tgt := 4) eX8_earliestLine_46 (by decide) ?_
          have e : bstL S (i + 1) = (some b) := by rw [bstL, if_neg (by omega)]; exact hI
          have h9 := ih (i + 1) (by omega) (by omega)
          rw [e] at h9
          exact h9
        · refine xs_iload_1 eX8_earliestLine_21 ?_
          refine xa_iconst eX8_earliestLine_22 ?_
          refine xa_icmp_eq (tgt := 41) eX8_earliestLine_23 (by decide) (by omega) (by decide) (fun c23 => ?_) (fun c23 => ?_)
          · exact absurd c23 (by omega)
          · refine xs_aload_0 eX8_earliestLine_26 ?_
            refine g_X8_10 eX8_earliestLine_27 lRX8_39 ?_
            refine xs_iload_2 eX8_earliestLine_30 ?_
            refine gar_40 eX8_earliestLine_31 (by omega) (fun r31 => ?_)
            try simp (decide := true) only [hL, show (0 : Int).toNat = 0 from rfl, show (1 : Int).toNat = 1 from rfl, show (2 : Int).toNat = 2 from rfl, show (3 : Int).toNat = 3 from rfl, show (4 : Int).toNat = 4 from rfl, show (5 : Int).toNat = 5 from rfl, show (6 : Int).toNat = 6 from rfl, show (7 : Int).toNat = 7 from rfl, show (8 : Int).toNat = 8 from rfl, show (9 : Int).toNat = 9 from rfl, show (10 : Int).toNat = 10 from rfl, show (11 : Int).toNat = 11 from rfl, show (12 : Int).toNat = 12 from rfl, show (13 : Int).toNat = 13 from rfl, show (14 : Int).toNat = 14 from rfl, Int.toNat_natCast] at r31 ⊢
            refine xs_aload_0 eX8_earliestLine_32 ?_
            refine g_X8_10 eX8_earliestLine_33 lRX8_39 ?_
            refine xs_iload_1 eX8_earliestLine_36 ?_
            refine gar_40 eX8_earliestLine_37 (by omega) (fun r37 => ?_)
            try simp (decide := true) only [hL, show (0 : Int).toNat = 0 from rfl, show (1 : Int).toNat = 1 from rfl, show (2 : Int).toNat = 2 from rfl, show (3 : Int).toNat = 3 from rfl, show (4 : Int).toNat = 4 from rfl, show (5 : Int).toNat = 5 from rfl, show (6 : Int).toNat = 6 from rfl, show (7 : Int).toNat = 7 from rfl, show (8 : Int).toNat = 8 from rfl, show (9 : Int).toNat = 9 from rfl, show (10 : Int).toNat = 10 from rfl, show (11 : Int).toNat = 11 from rfl, show (12 : Int).toNat = 12 from rfl, show (13 : Int).toNat = 13 from rfl, show (14 : Int).toNat = 14 from rfl, Int.toNat_natCast] at r37 ⊢
            refine xa_icmp_ge (tgt := 43) eX8_earliestLine_38 (by decide) (by omega) (by omega) (fun c38 => ?_) (fun c38 => ?_)
            · refine xs_iinc_2 eX8_earliestLine_43 rfl ?_
              refine xa_goto (tgt := 4) eX8_earliestLine_46 (by decide) ?_
              have e : bstL S (i + 1) = (some b) := by rw [bstL, if_pos c18, hI]; show (if _ then _ else _) = _; rw [if_neg (by omega)]
              have h9 := ih (i + 1) (by omega) (by omega)
              rw [e] at h9
              exact h9
            · refine xs_iload_2 eX8_earliestLine_41 ?_
              refine xs_istore_1 eX8_earliestLine_42 rfl ?_
              refine xs_iinc_2 eX8_earliestLine_43 rfl ?_
              refine xa_goto (tgt := 4) eX8_earliestLine_46 (by decide) ?_
              have e : bstL S (i + 1) = (some i) := by rw [bstL, if_pos c18, hI]; show (if _ then _ else _) = _; rw [if_pos (by omega)]
              have h9 := ih (i + 1) (by omega) (by omega)
              rw [e] at h9
              exact h9
  refine xa_iconst eX8_earliestLine_0 ?_
  refine xs_istore_1 eX8_earliestLine_1 rfl ?_
  refine xa_iconst eX8_earliestLine_2 ?_
  refine xs_istore_2 eX8_earliestLine_3 rfl ?_
  exact lp 0 (by omega)
theorem RLn.st {u K : Nat} {C S S' : xS} (h : RLn u K C S) (e1 : S' 30 0 11 = S 30 0 11) (e2 : ∀ k, 35 ≤ k → k ≤ 40 → S' k 0 = S k 0) : RLn u K C S' :=
  ⟨by rw [e1]; exact h.1, fun i hi h0 => (h.2.1 i hi h0).congr (fun k k1 k2 => by rw [e2 k k1 k2]), h.2.2⟩
theorem lvc_rel {u K : Nat} {C : xS} (i : Nat) : lvc u (relT u K C) i = lvc u C i := lvc_congr (fun j _ => by
  unfold relT
  by_cases c : 10 = 10 ∧ 32 * u ≤ 32 * u + j ∧ 32 * u + j < 32 * u + K ∧ C 10 (32 * u + j) 0 = 0 ∧ C 10 (32 * u + j) 5 = C 2 u 2
  · rw [if_pos c]; rfl
  · rw [if_neg c])
theorem lvc_cho {u K : Nat} {C : xS} (i : Nat) : lvc u (choT u K C) i = lvc u C i := lvc_congr (fun j _ => by
  unfold choT decT
  cases bstT u C K with
  | none => exact Iff.rfl
  | some b => show up C 10 _ 6 _ 10 _ 0 = 0 ↔ _; rw [up_f (by decide)])
theorem lvc_gro {u K : Nat} {C : xS} (i : Nat) : lvc u (groT u K C) i = lvc u C i := lvc_congr (fun j _ => by
  unfold groT
  rw [if_neg (by omega)]
  by_cases c : 10 = 10 ∧ 32 * u ≤ 32 * u + j ∧ 32 * u + j < 32 * u + K
  · rw [if_pos c]; unfold xmis
    by_cases c2 : 0 < C 10 (32 * u + j) 6 ∧ C 10 (32 * u + j) 7 ≤ C 2 u 2 + 1
    · rw [if_pos c2, if_neg (by decide), if_neg (by decide)]
    · rw [if_neg c2]
  · rw [if_neg c])
theorem choT_2 {u K : Nat} {C : xS} : choT u K C 2 = C 2 := by
  unfold choT decT
  cases bstT u C K with
  | none => rfl
  | some b => funext j f; exact up_k (by decide)
theorem VT.ln {u K : Nat} {T : Int} {C S : xS} (hV : VT u K T C) (h : RLn u K C S) : ∀ l, l < lvc u C K → (-1 ≤ S 37 0 l ∧ S 37 0 l ≤ 200) ∧ (-1 ≤ S 35 0 l ∧ S 35 0 l ≤ 200) := fun l hl => by
  obtain ⟨i, hi, h0, rfl⟩ := lvc_of hl
  have h1 := h.2.1 i hi h0
  have h2 := hV.2.2.2 i hi
  unfold TQ at h2
  unfold LN at h1
  omega
set_option maxHeartbeats 400000 in
theorem f_X8_runsWell {w : xW} {S : xS} {B : String → xS → Prop} {A : Int → xS → Prop} {u Kn : Nat} {T : Int} {C : xS} (hV : VT u Kn T C) (hT : T ≤ 900000) (hR : RLn u Kn C S) (hM : S 31 0 0 = C 2 u 2) (hq : ∀ S', lnf S' S → (okT u Kn 360 C = true → S' 30 0 12 = freT u Kn 360 C) → A (b2i (okT u Kn 360 C = true)) S') : Ki w mX8_runsWell yX8_runsWell 0 0 [xp 30 0] S A B := by
  refine K.of rfl rfl rfl rfl (Nat.le_of_ble_eq_true rfl) rfl ?_
  have il : ∀ (S1 : xS) (L : Nat) (tk now : Int) (a4 : xV), S1 30 0 11 = (L : Int) → L ≤ 21 → (0 ≤ now ∧ now ≤ 2000000) → xcat2 a4 = false → (∀ (g : Int) (a5 : xV), g = okQ now S1 L → X w mX8_runsWell (xTG w (fun v S' => ∃ a, v = some (xi a) ∧ A a S') B) 0 0 125 [xp 30 0, xi g, xi tk, xi now, a4, a5] [] S1) → X w mX8_runsWell (xTG w (fun v S' => ∃ a, v = some (xi a) ∧ A a S') B) 0 0 79 [xp 30 0, xi 1, xi tk, xi now, a4, xi 0] [] S1 := by
    intro S1 L tk now a4 hL hL21 hnow ha4 kk
    have lp2 : ∀ i : Nat, i ≤ L → X w mX8_runsWell (xTG w (fun v S' => ∃ a, v = some (xi a) ∧ A a S') B) 0 0 79 [xp 30 0, xi (okQ now S1 i), xi tk, xi now, a4, xi (i : Int)] [] S1 := by
      refine nloop L (fun i hi ih => ?_)
      have h01 := (okQ_1 (t := now) (S := S1) (L := i)).2
      refine xs_iload_5 eX8_runsWell_79 ?_
      refine xs_aload_0 eX8_runsWell_81 ?_
      refine gr_X8_11 eX8_runsWell_82 lRX8_140 (fun r82 => ?_)
      try simp (decide := true) only [hL, show (0 : Int).toNat = 0 from rfl, show (1 : Int).toNat = 1 from rfl, show (2 : Int).toNat = 2 from rfl, show (3 : Int).toNat = 3 from rfl, show (4 : Int).toNat = 4 from rfl, show (5 : Int).toNat = 5 from rfl, show (6 : Int).toNat = 6 from rfl, show (7 : Int).toNat = 7 from rfl, show (8 : Int).toNat = 8 from rfl, show (9 : Int).toNat = 9 from rfl, show (10 : Int).toNat = 10 from rfl, show (11 : Int).toNat = 11 from rfl, show (12 : Int).toNat = 12 from rfl, show (13 : Int).toNat = 13 from rfl, show (14 : Int).toNat = 14 from rfl, Int.toNat_natCast] at r82 ⊢
      refine xa_icmp_ge (tgt := 125) eX8_runsWell_85 (by decide) (by omega) (by omega) (fun c85 => ?_) (fun c85 => ?_)
      · exact kk _ _ (by rw [show L = i by omega])
      · refine xs_iload_1 eX8_runsWell_88 ?_
        refine xs_aload_0 eX8_runsWell_89 ?_
        refine g_X8_9 eX8_runsWell_90 lRX8_36 ?_
        refine xs_iload_5 eX8_runsWell_93 ?_
        refine gar_39 eX8_runsWell_95 (by omega) (fun r95 => ?_)
        try simp (decide := true) only [hL, show (0 : Int).toNat = 0 from rfl, show (1 : Int).toNat = 1 from rfl, show (2 : Int).toNat = 2 from rfl, show (3 : Int).toNat = 3 from rfl, show (4 : Int).toNat = 4 from rfl, show (5 : Int).toNat = 5 from rfl, show (6 : Int).toNat = 6 from rfl, show (7 : Int).toNat = 7 from rfl, show (8 : Int).toNat = 8 from rfl, show (9 : Int).toNat = 9 from rfl, show (10 : Int).toNat = 10 from rfl, show (11 : Int).toNat = 11 from rfl, show (12 : Int).toNat = 12 from rfl, show (13 : Int).toNat = 13 from rfl, show (14 : Int).toNat = 14 from rfl, Int.toNat_natCast] at r95 ⊢
        refine xa_if_eq (tgt := 112) eX8_runsWell_96 (by decide) (by omega) (fun c96 => ?_) (fun c96 => ?_)
        · refine xa_iconst eX8_runsWell_112 ?_
          refine xa_goto (tgt := 117) eX8_runsWell_113 (by decide) ?_
          refine xa_iand eX8_runsWell_117 ?_
          refine xs_istore_1 eX8_runsWell_118 rfl ?_
          refine xs_iinc_5 eX8_runsWell_119 ha4 ?_
          refine xa_goto (tgt := 79) eX8_runsWell_122 (by decide) ?_
          have h9 := ih (i + 1) (by omega) (by omega)
          rw [okQ, if_pos (by omega)] at h9
          rw [and_1 h01]
          exact h9
        · refine xs_aload_0 eX8_runsWell_99 ?_
          refine g_X8_10 eX8_runsWell_100 lRX8_39 ?_
          refine xs_iload_5 eX8_runsWell_103 ?_
          refine gar_40 eX8_runsWell_105 (by omega) (fun r105 => ?_)
          try simp (decide := true) only [hL, show (0 : Int).toNat = 0 from rfl, show (1 : Int).toNat = 1 from rfl, show (2 : Int).toNat = 2 from rfl, show (3 : Int).toNat = 3 from rfl, show (4 : Int).toNat = 4 from rfl, show (5 : Int).toNat = 5 from rfl, show (6 : Int).toNat = 6 from rfl, show (7 : Int).toNat = 7 from rfl, show (8 : Int).toNat = 8 from rfl, show (9 : Int).toNat = 9 from rfl, show (10 : Int).toNat = 10 from rfl, show (11 : Int).toNat = 11 from rfl, show (12 : Int).toNat = 12 from rfl, show (13 : Int).toNat = 13 from rfl, show (14 : Int).toNat = 14 from rfl, Int.toNat_natCast] at r105 ⊢
          refine xs_iload_3 eX8_runsWell_106 ?_
          refine xa_iconst eX8_runsWell_107 ?_
          refine xa_iadd eX8_runsWell_108 ?_
          refine xa_icmp_le (tgt := 116) eX8_runsWell_109 (by decide) (by omega) (by omega) (fun c109 => ?_) (fun c109 => ?_)
          · refine xa_iconst eX8_runsWell_116 ?_
            refine xa_iand eX8_runsWell_117 ?_
            refine xs_istore_1 eX8_runsWell_118 rfl ?_
            refine xs_iinc_5 eX8_runsWell_119 ha4 ?_
            refine xa_goto (tgt := 79) eX8_runsWell_122 (by decide) ?_
            have h9 := ih (i + 1) (by omega) (by omega)
            rw [okQ, if_neg (by omega)] at h9
            rw [and_0 h01]
            exact h9
          · refine xa_iconst eX8_runsWell_112 ?_
            refine xa_goto (tgt := 117) eX8_runsWell_113 (by decide) ?_
            refine xa_iand eX8_runsWell_117 ?_
            refine xs_istore_1 eX8_runsWell_118 rfl ?_
            refine xs_iinc_5 eX8_runsWell_119 ha4 ?_
            refine xa_goto (tgt := 79) eX8_runsWell_122 (by decide) ?_
            have h9 := ih (i + 1) (by omega) (by omega)
            rw [okQ, if_pos (by omega)] at h9
            rw [and_1 h01]
            exact h9
    exact lp2 0 (by omega)
  have z0 : ∀ (i : Int) (a3 a4 a5 : xV) (S1 : xS), xr i → okT u Kn 360 C = false → lnf S1 S → X w mX8_runsWell (xTG w (fun v S' => ∃ a, v = some (xi a) ∧ A a S') B) 0 0 9 [xp 30 0, xi 0, xi i, a3, a4, a5] [] S1 := by
    intro i a3 a4 a5 S1 hi hc hx
    refine xs_iload_2 eX8_runsWell_9 ?_
    refine xa_sipush eX8_runsWell_10 (by decide) ?_
    refine xa_icmp_ge (tgt := 131) eX8_runsWell_13 (by decide) (by omega) (by decide) (fun c13 => ?_) (fun c13 => ?_)
    · refine xs_iload_1 eX8_runsWell_131 ?_
      exact xa_zret eX8_runsWell_132 rfl (by decide) ⟨_, rfl, by have h8 := hq S1 hx (fun z => absurd (z.symm.trans hc) (by decide)); rw [b2i, if_neg (by rw [hc]; decide)] at h8; exact h8⟩
    · refine xs_iload_1 eX8_runsWell_16 ?_
      refine xa_if_eq (tgt := 131) eX8_runsWell_17 (by decide) (by decide) (fun c17 => ?_) (fun c17 => ?_)
      · refine xs_iload_1 eX8_runsWell_131 ?_
        exact xa_zret eX8_runsWell_132 rfl (by decide) ⟨_, rfl, by have h8 := hq S1 hx (fun z => absurd (z.symm.trans hc) (by decide)); rw [b2i, if_neg (by rw [hc]; decide)] at h8; exact h8⟩
      · exact absurd rfl c17
  have lp : ∀ i : Nat, i ≤ 360 → ∀ (a3 a4 a5 : xV) (D S1 : xS), VT u Kn (T + 2 * (i : Int)) D ∧ RLn u Kn D S1 ∧ lnf S1 S ∧ D 2 u 2 = C 2 u 2 + (i : Int) ∧ okT u Kn (360 - i) D = okT u Kn 360 C ∧ S1 30 0 12 + freT u Kn (360 - i) D = freT u Kn 360 C ∧ (0 ≤ S1 30 0 12 ∧ S1 30 0 12 ≤ (i : Int)) → X w mX8_runsWell (xTG w (fun v S' => ∃ a, v = some (xi a) ∧ A a S') B) 0 0 9 [xp 30 0, xi 1, xi (i : Int), a3, a4, a5] [] S1 := by
    refine nloop 360 (fun i hi ih a3 a4 a5 D S1 hI => ?_)
    have hL21 : lvc u D Kn ≤ 21 := Nat.le_trans (lvc_le u D Kn) hI.1.2.1
    have hM1 : S1 31 0 0 = C 2 u 2 := by rw [hI.2.2.1.1 31 0 (Or.inl (by decide)) (by decide)]; exact hM
    have et := hI.2.2.2.1
    have htD := hI.1.2.2.1
    have hs12 := hI.2.2.2.2.2.2
    refine xs_iload_2 eX8_runsWell_9 ?_
    refine xa_sipush eX8_runsWell_10 (by decide) ?_
    refine xa_icmp_ge (tgt := 131) eX8_runsWell_13 (by decide) (by omega) (by decide) (fun c13 => ?_) (fun c13 => ?_)
    · refine xs_iload_1 eX8_runsWell_131 ?_
      exact xa_zret eX8_runsWell_132 rfl (by decide) ⟨_, rfl, by have ei : i = 360 := (by omega); have h9 := hI.2.2.2.2.1; rw [show 360 - i = 0 by omega, okT] at h9; have h10 := hI.2.2.2.2.2.1; rw [show 360 - i = 0 by omega, freT] at h10; have h8 := hq S1 hI.2.2.1 (fun _ => by omega); rw [b2i, if_pos h9.symm] at h8; exact h8⟩
    · refine xs_iload_1 eX8_runsWell_16 ?_
      refine xa_if_eq (tgt := 131) eX8_runsWell_17 (by decide) (by decide) (fun c17 => ?_) (fun c17 => ?_)
      · exact absurd c17 (by decide)
      · refine xs_aload_0 eX8_runsWell_20 ?_
        refine xa_iconst eX8_runsWell_21 ?_
        refine xbi_V10 (mi' := mX8_number) (y := yX8_number) eX8_runsWell_22 (xw_5 lRX8_65 wy_X8_number) rfl ⟨wd_X8_number, by decide, by decide⟩ (by decide) (fun _ => rfl) rfl (Nat.le_of_ble_eq_true rfl) rfl (k_X8_number (i := 0) rfl (by decide) ?_)
        rw [hM1]
        refine xs_iload_2 eX8_runsWell_25 ?_
        refine xa_iadd eX8_runsWell_26 ?_
        refine xs_istore_3 eX8_runsWell_27 rfl ?_
        refine xs_aload_0 eX8_runsWell_28 ?_
        refine xs_iload_3 eX8_runsWell_29 ?_
        refine xbv_V10 (mi' := mX8_release) (y := yX8_release) eX8_runsWell_30 (xw_5 lRX8_149 wy_X8_release) rfl ⟨wd_X8_release, by decide, by decide⟩ (by decide) (fun _ => rfl) rfl (Nat.le_of_ble_eq_true rfl) rfl (f_X8_release (L := lvc u D Kn) hI.2.1.1 hL21 (by omega) (hI.1.ln hI.2.1) ?_)
        have hR1 : RLn u Kn (relT u Kn D) (relL (lvc u D Kn) (C 2 u 2 + (i : Int)) S1) := by have h9 := hI.2.1.rel hI.1; rw [et] at h9; exact h9
        have eR12 : relL (lvc u D Kn) (C 2 u 2 + (i : Int)) S1 30 0 12 = S1 30 0 12 := by rw [relL_k (by decide)]
        refine xs_aload_0 eX8_runsWell_33 ?_
        refine xbi_V00 (mi' := mX8_earliestLine) (y := yX8_earliestLine) eX8_runsWell_34 (xw_5 lRX8_153 wy_X8_earliestLine) rfl ⟨wd_X8_earliestLine, by decide, by decide⟩ (by decide) (fun _ => rfl) rfl (Nat.le_of_ble_eq_true rfl) rfl (f_X8_earliestLine (L := lvc u D Kn) (by rw [relL_k (by decide)]; exact hI.2.1.1) hL21 (fun eb => ?_) (fun l eb => ?_))
        · have ebt : bstT u (relT u Kn D) Kn = none := by have h9 := hR1.bst Kn (Nat.le_refl _); rw [lvc_rel, eb] at h9; cases hz : bstT u (relT u Kn D) Kn with
            | none => rfl
            | some b => rw [hz] at h9; exact nomatch h9
          refine xs_istore_4 eX8_runsWell_37 rfl ?_
          refine xs_aload_0 eX8_runsWell_39 ?_
          refine xa_dup eX8_runsWell_40 rfl ?_
          refine gr_X8_12 eX8_runsWell_41 lRX8_146 (fun r41 => ?_)
          try simp (decide := true) only [up_app, if_false, false_and, and_false, if_true, and_true, true_and, eR12, show (0 : Int).toNat = 0 from rfl, show (1 : Int).toNat = 1 from rfl, show (2 : Int).toNat = 2 from rfl, show (3 : Int).toNat = 3 from rfl, show (4 : Int).toNat = 4 from rfl, show (5 : Int).toNat = 5 from rfl, show (6 : Int).toNat = 6 from rfl, show (7 : Int).toNat = 7 from rfl, show (8 : Int).toNat = 8 from rfl, show (9 : Int).toNat = 9 from rfl, show (10 : Int).toNat = 10 from rfl, show (11 : Int).toNat = 11 from rfl, show (12 : Int).toNat = 12 from rfl, show (13 : Int).toNat = 13 from rfl, show (14 : Int).toNat = 14 from rfl, Int.toNat_natCast] at r41 ⊢
          refine xs_iload_4 eX8_runsWell_44 ?_
          refine xa_iconst eX8_runsWell_46 ?_
          refine xa_icmp_ne (tgt := 54) eX8_runsWell_47 (by decide) (by omega) (by decide) (fun c47 => ?_) (fun c47 => ?_)
          · exact absurd rfl c47
          · refine xa_iconst eX8_runsWell_50 ?_
            refine xa_goto (tgt := 55) eX8_runsWell_51 (by decide) ?_
            refine xa_iadd eX8_runsWell_55 ?_
            refine p_X8_12 eX8_runsWell_56 lRX8_146 (by omega) ?_
            refine xs_iload_4 eX8_runsWell_59 ?_
            refine xa_iconst eX8_runsWell_61 ?_
            refine xa_icmp_eq (tgt := 76) eX8_runsWell_62 (by decide) (by omega) (by decide) (fun c62 => ?_) (fun c62 => ?_)
            · refine xa_iconst eX8_runsWell_76 ?_
              refine xs_istore_5 eX8_runsWell_77 rfl ?_
              have hR2 : RLn u Kn (choT u Kn (relT u Kn D)) (up (relL (lvc u D Kn) (C 2 u 2 + (i : Int)) S1) 30 0 12 (S1 30 0 12 + 1)) := by
                have h9 := hR1.cho
                rw [lvc_rel, eb] at h9
                dsimp only at h9
                refine h9.st ?_ (fun k k1 k2 => ?_)
                · simp (decide := true) only [up_app, if_false, false_and, and_false]
                · funext f; rw [up_k (by omega)]
              have hx2 : lnf (up (relL (lvc u D Kn) (C 2 u 2 + (i : Int)) S1) 30 0 12 (S1 30 0 12 + 1)) S := by
                exact (lnf.up30 relL_fr (Or.inr rfl)).tr hI.2.2.1
              have e12 : (up (relL (lvc u D Kn) (C 2 u 2 + (i : Int)) S1) 30 0 12 (S1 30 0 12 + 1)) 30 0 12 = S1 30 0 12 + 1 := by
                simp (decide := true) only [up_app, if_false, false_and, and_false, if_true, and_true]
              generalize (up (relL (lvc u D Kn) (C 2 u 2 + (i : Int)) S1) 30 0 12 (S1 30 0 12 + 1)) = S2 at hR2 hx2 e12 ⊢
              refine il S2 (lvc u D Kn) (i : Int) (C 2 u 2 + (i : Int)) (xi (-1)) (by have h9 := hR2.1; rw [lvc_cho, lvc_rel] at h9; exact h9) hL21 (by omega) rfl (fun g a5 hg => ?_)
              refine xs_iinc_2 eX8_runsWell_125 rfl ?_
              refine xa_goto (tgt := 9) eX8_runsWell_128 (by decide) ?_
              have h7 : okT u Kn (360 - i) D = (decide (misT u Kn (choT u Kn (relT u Kn D)) = 0) && okT u Kn (360 - (i + 1)) (tckT u Kn D)) := by rw [show 360 - i = (360 - (i + 1)) + 1 by omega, okT]
              have h8 : freT u Kn (360 - i) D = (if bstT u (relT u Kn D) Kn = none then 1 else 0) + freT u Kn (360 - (i + 1)) (tckT u Kn D) := by rw [show 360 - i = (360 - (i + 1)) + 1 by omega, freT]
              have hm := hR2.mis hI.1.rel.cho
              rw [lvc_cho, lvc_rel, choT_2, relT_o (by decide), et] at hm
              have h1q := okQ_1 (t := C 2 u 2 + (i : Int)) (S := S2) (L := lvc u D Kn)
              rw [← hg] at h1q
              rcases h1q.2 with eg | eg
              · rw [eg]
                refine z0 _ _ _ _ _ (by omega) ?_ hx2
                rw [← hI.2.2.2.2.1, h7, decide_eq_false (fun z => absurd (h1q.1.mpr (hm.mp z)) (by omega))]
                rfl
              · rw [eg]
                have hm0 := hm.mpr (h1q.1.mp eg)
                refine ih (i + 1) (by omega) (by omega) _ _ _ (tckT u Kn D) S2 ⟨?_, ?_, hx2, ?_, ?_, ?_, by have := hI.2.2.2.2.2.2; omega⟩
                · have h9 := hI.1.tck; rw [show T + 2 * (i : Int) + 2 = T + 2 * ((i + 1 : Nat) : Int) by omega] at h9; exact h9
                · exact hR2.gro hm0
                · show groT u Kn _ 2 u 2 = _; unfold groT; rw [if_pos ⟨rfl, rfl, rfl⟩, choT_2, relT_o (by decide), et]; omega
                · rw [← hI.2.2.2.2.1, h7, decide_eq_true hm0]; rfl
                · rw [e12]; have hf := hI.2.2.2.2.2.1; rw [h8, if_pos ebt] at hf; omega
            · exact absurd rfl c62
        · have hl := bstL_lt eb
          have ebt : ∃ b, bstT u (relT u Kn D) Kn = some b := by have h9 := hR1.bst Kn (Nat.le_refl _); rw [lvc_rel, eb] at h9; cases hz : bstT u (relT u Kn D) Kn with
            | none => rw [hz] at h9; exact nomatch h9
            | some b => exact ⟨b, rfl⟩
          obtain ⟨bb, ebt⟩ := ebt
          refine xs_istore_4 eX8_runsWell_37 rfl ?_
          refine xs_aload_0 eX8_runsWell_39 ?_
          refine xa_dup eX8_runsWell_40 rfl ?_
          refine gr_X8_12 eX8_runsWell_41 lRX8_146 (fun r41 => ?_)
          try simp (decide := true) only [up_app, if_false, false_and, and_false, if_true, and_true, true_and, eR12, show (0 : Int).toNat = 0 from rfl, show (1 : Int).toNat = 1 from rfl, show (2 : Int).toNat = 2 from rfl, show (3 : Int).toNat = 3 from rfl, show (4 : Int).toNat = 4 from rfl, show (5 : Int).toNat = 5 from rfl, show (6 : Int).toNat = 6 from rfl, show (7 : Int).toNat = 7 from rfl, show (8 : Int).toNat = 8 from rfl, show (9 : Int).toNat = 9 from rfl, show (10 : Int).toNat = 10 from rfl, show (11 : Int).toNat = 11 from rfl, show (12 : Int).toNat = 12 from rfl, show (13 : Int).toNat = 13 from rfl, show (14 : Int).toNat = 14 from rfl, Int.toNat_natCast] at r41 ⊢
          refine xs_iload_4 eX8_runsWell_44 ?_
          refine xa_iconst eX8_runsWell_46 ?_
          refine xa_icmp_ne (tgt := 54) eX8_runsWell_47 (by decide) (by omega) (by decide) (fun c47 => ?_) (fun c47 => ?_)
          · refine xa_iconst eX8_runsWell_54 ?_
            refine xa_iadd eX8_runsWell_55 ?_
            refine p_X8_12 eX8_runsWell_56 lRX8_146 (by omega) ?_
            refine xs_iload_4 eX8_runsWell_59 ?_
            refine xa_iconst eX8_runsWell_61 ?_
            refine xa_icmp_eq (tgt := 76) eX8_runsWell_62 (by decide) (by omega) (by decide) (fun c62 => ?_) (fun c62 => ?_)
            · exact absurd c62 (by omega)
            · refine xs_aload_0 eX8_runsWell_65 ?_
              refine g_X8_9 eX8_runsWell_66 lRX8_36 ?_
              refine xs_iload_4 eX8_runsWell_69 ?_
              refine xa_dup2 eX8_runsWell_71 rfl rfl ?_
              refine gar_39 eX8_runsWell_72 (by omega) (fun r72 => ?_)
              try simp (decide := true) only [up_app, if_false, false_and, and_false, if_true, and_true, true_and, eR12, show (0 : Int).toNat = 0 from rfl, show (1 : Int).toNat = 1 from rfl, show (2 : Int).toNat = 2 from rfl, show (3 : Int).toNat = 3 from rfl, show (4 : Int).toNat = 4 from rfl, show (5 : Int).toNat = 5 from rfl, show (6 : Int).toNat = 6 from rfl, show (7 : Int).toNat = 7 from rfl, show (8 : Int).toNat = 8 from rfl, show (9 : Int).toNat = 9 from rfl, show (10 : Int).toNat = 10 from rfl, show (11 : Int).toNat = 11 from rfl, show (12 : Int).toNat = 12 from rfl, show (13 : Int).toNat = 13 from rfl, show (14 : Int).toNat = 14 from rfl, Int.toNat_natCast] at r72 ⊢
              refine xa_iconst eX8_runsWell_73 ?_
              refine xa_isub eX8_runsWell_74 ?_
              refine pa_39 eX8_runsWell_75 (by omega) (by omega) ?_
              rw [Int.toNat_natCast]
              refine xa_iconst eX8_runsWell_76 ?_
              refine xs_istore_5 eX8_runsWell_77 rfl ?_
              have hR2 : RLn u Kn (choT u Kn (relT u Kn D)) (up (up (relL (lvc u D Kn) (C 2 u 2 + (i : Int)) S1) 30 0 12 (S1 30 0 12 + 0)) 39 0 l (relL (lvc u D Kn) (C 2 u 2 + (i : Int)) S1 39 0 l - 1)) := by
                have h9 := hR1.cho
                rw [lvc_rel, eb] at h9
                dsimp only at h9
                refine h9.st ?_ (fun k k1 k2 => ?_)
                · simp (decide := true) only [up_app, if_false, false_and, and_false]
                · funext f; rw [up_app, up_k (show k ≠ 30 by omega), up_app]
              have hx2 : lnf (up (up (relL (lvc u D Kn) (C 2 u 2 + (i : Int)) S1) 30 0 12 (S1 30 0 12 + 0)) 39 0 l (relL (lvc u D Kn) (C 2 u 2 + (i : Int)) S1 39 0 l - 1)) S := by
                exact (lnf.upk (lnf.up30 relL_fr (Or.inr rfl)) (by decide)).tr hI.2.2.1
              have e12 : (up (up (relL (lvc u D Kn) (C 2 u 2 + (i : Int)) S1) 30 0 12 (S1 30 0 12 + 0)) 39 0 l (relL (lvc u D Kn) (C 2 u 2 + (i : Int)) S1 39 0 l - 1)) 30 0 12 = S1 30 0 12 + 0 := by
                simp (decide := true) only [up_app, if_false, false_and, and_false, if_true, and_true]
              generalize (up (up (relL (lvc u D Kn) (C 2 u 2 + (i : Int)) S1) 30 0 12 (S1 30 0 12 + 0)) 39 0 l (relL (lvc u D Kn) (C 2 u 2 + (i : Int)) S1 39 0 l - 1)) = S2 at hR2 hx2 e12 ⊢
              refine il S2 (lvc u D Kn) (i : Int) (C 2 u 2 + (i : Int)) (xi (l : Int)) (by have h9 := hR2.1; rw [lvc_cho, lvc_rel] at h9; exact h9) hL21 (by omega) rfl (fun g a5 hg => ?_)
              refine xs_iinc_2 eX8_runsWell_125 rfl ?_
              refine xa_goto (tgt := 9) eX8_runsWell_128 (by decide) ?_
              have h7 : okT u Kn (360 - i) D = (decide (misT u Kn (choT u Kn (relT u Kn D)) = 0) && okT u Kn (360 - (i + 1)) (tckT u Kn D)) := by rw [show 360 - i = (360 - (i + 1)) + 1 by omega, okT]
              have h8 : freT u Kn (360 - i) D = (if bstT u (relT u Kn D) Kn = none then 1 else 0) + freT u Kn (360 - (i + 1)) (tckT u Kn D) := by rw [show 360 - i = (360 - (i + 1)) + 1 by omega, freT]
              have hm := hR2.mis hI.1.rel.cho
              rw [lvc_cho, lvc_rel, choT_2, relT_o (by decide), et] at hm
              have h1q := okQ_1 (t := C 2 u 2 + (i : Int)) (S := S2) (L := lvc u D Kn)
              rw [← hg] at h1q
              rcases h1q.2 with eg | eg
              · rw [eg]
                refine z0 _ _ _ _ _ (by omega) ?_ hx2
                rw [← hI.2.2.2.2.1, h7, decide_eq_false (fun z => absurd (h1q.1.mpr (hm.mp z)) (by omega))]
                rfl
              · rw [eg]
                have hm0 := hm.mpr (h1q.1.mp eg)
                refine ih (i + 1) (by omega) (by omega) _ _ _ (tckT u Kn D) S2 ⟨?_, ?_, hx2, ?_, ?_, ?_, by have := hI.2.2.2.2.2.2; omega⟩
                · have h9 := hI.1.tck; rw [show T + 2 * (i : Int) + 2 = T + 2 * ((i + 1 : Nat) : Int) by omega] at h9; exact h9
                · exact hR2.gro hm0
                · show groT u Kn _ 2 u 2 = _; unfold groT; rw [if_pos ⟨rfl, rfl, rfl⟩, choT_2, relT_o (by decide), et]; omega
                · rw [← hI.2.2.2.2.1, h7, decide_eq_true hm0]; rfl
                · rw [e12]; have hf := hI.2.2.2.2.2.1; rw [h8, if_neg (by rw [ebt]; exact fun z => nomatch z)] at hf; omega
          · exact absurd c47 (by omega)
  refine xa_iconst eX8_runsWell_0 ?_
  refine xs_istore_1 eX8_runsWell_1 rfl ?_
  refine xs_aload_0 eX8_runsWell_2 ?_
  refine xa_iconst eX8_runsWell_3 ?_
  refine p_X8_12 eX8_runsWell_4 lRX8_146 (by omega) ?_
  refine xa_iconst eX8_runsWell_7 ?_
  refine xs_istore_2 eX8_runsWell_8 rfl ?_
  exact lp 0 (by omega) xj xj xj C _ ⟨by rw [show T + 2 * ((0 : Nat) : Int) = T by omega]; exact hV, hR.st (by rw [up_f (by decide)]) (fun k k1 k2 => by funext f; exact up_k (by omega)), lnf.up30 lnf.rf (Or.inr rfl), by omega, rfl, by rw [up_same, Nat.sub_zero]; omega, by rw [up_same]; omega⟩
