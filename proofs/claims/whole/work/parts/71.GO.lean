/-! the reference: words accepted -/
set_option maxHeartbeats 400000 in
theorem k_X8_accept {w : xW} {S : xS} {B : String → xS → Prop} {A : Int → xS → Prop} {n p i : Nat} (hi : i < 6) (h15 : S 30 0 15 = (p : Int)) (hn : S 30 0 14 = (n : Int)) (h7 : n ≤ 700) (hB : ∀ j, j < n → 0 ≤ S 41 0 j ∧ S 41 0 j ≤ 255) (hp : p ≤ n) (hq1 : S 30 0 20 = 0 → isWR i S → A 1 (nxR n p S)) (hq0 : ¬ (S 30 0 20 = 0 ∧ isWR i S) → A 0 S) : Ki w mX8_accept yX8_accept 0 0 [xp 30 0, xp 51 i] S A B := by
  refine K.of rfl rfl rfl rfl (Nat.le_of_ble_eq_true rfl) rfl ?_
  refine xs_aload_0 eX8_accept_0 ?_
  refine xbi_V00 (mi' := mX8_isFine) (y := yX8_isFine) eX8_accept_1 (xw_5 lRX8_320 wy_X8_isFine) rfl ⟨wd_X8_isFine, by decide, by decide⟩ (by decide) (fun _ => rfl) rfl (Nat.le_of_ble_eq_true rfl) rfl (k_X8_isFine ?_)
  refine xa_ifb_eq (tgt := 19) eX8_accept_4 (by decide) (fun c4 => ?_) (fun c4 => ?_)
  · refine xa_iconst eX8_accept_19 ?_
    refine xs_istore_2 eX8_accept_20 rfl ?_
    refine xs_iload_2 eX8_accept_21 ?_
    refine xa_if_eq (tgt := 29) eX8_accept_22 (by decide) (by decide) (fun c22 => ?_) (fun c22 => ?_)
    · refine xs_iload_2 eX8_accept_29 ?_
      exact xa_zret eX8_accept_30 rfl (by decide) ⟨_, rfl, hq0 (fun z => c4 z.1)⟩
    · exact absurd rfl c22
  · refine xs_aload_0 eX8_accept_7 ?_
    refine xs_aload_1 eX8_accept_8 ?_
    refine xbi_V10 (mi' := mX8_isWord) (y := yX8_isWord) eX8_accept_9 (xw_5 lRX8_326 wy_X8_isWord) rfl ⟨wd_X8_isWord, by decide, by decide⟩ (by decide) (fun _ => rfl) rfl (Nat.le_of_ble_eq_true rfl) rfl (k_X8_isWord hi ?_)
    refine xa_ifb_eq (tgt := 19) eX8_accept_12 (by decide) (fun c12 => ?_) (fun c12 => ?_)
    · refine xa_iconst eX8_accept_19 ?_
      refine xs_istore_2 eX8_accept_20 rfl ?_
      refine xs_iload_2 eX8_accept_21 ?_
      refine xa_if_eq (tgt := 29) eX8_accept_22 (by decide) (by decide) (fun c22 => ?_) (fun c22 => ?_)
      · refine xs_iload_2 eX8_accept_29 ?_
        exact xa_zret eX8_accept_30 rfl (by decide) ⟨_, rfl, hq0 (fun z => c12 z.2)⟩
      · exact absurd rfl c22
    · refine xa_iconst eX8_accept_15 ?_
      refine xa_goto (tgt := 20) eX8_accept_16 (by decide) ?_
      refine xs_istore_2 eX8_accept_20 rfl ?_
      refine xs_iload_2 eX8_accept_21 ?_
      refine xa_if_eq (tgt := 29) eX8_accept_22 (by decide) (by decide) (fun c22 => ?_) (fun c22 => ?_)
      · exact absurd c22 (by decide)
      · refine xs_aload_0 eX8_accept_25 ?_
        refine xbv_V00 (mi' := mX8_nextToken) (y := yX8_nextToken) eX8_accept_26 (xw_5 lRX8_323 wy_X8_nextToken) rfl ⟨wd_X8_nextToken, by decide, by decide⟩ (by decide) (fun _ => rfl) rfl (Nat.le_of_ble_eq_true rfl) rfl (f_X8_nextToken h15 hn h7 hB hp ?_)
        refine xs_iload_2 eX8_accept_29 ?_
        exact xa_zret eX8_accept_30 rfl (by decide) ⟨_, rfl, hq1 c4 c12⟩
theorem Rel.pros {s n N : Nat} {o p b d : Int} {C : xS} {M : Nat → Int} (h : Rel s n N C M) (hN : N < 20) (ht : 0 ≤ C 2 s 2) : Rel s n (N + 1) (addT s N o p b d C) (apM N o p b d M) := by
  obtain ⟨h1, h2, h3, h4⟩ := h
  have e : ∀ k, k ≠ 2 → k ≠ 10 → addT s N o p b d C k = C k := fun k hk hk2 => by funext j f; unfold addT; rw [if_neg (by omega), if_neg (by omega)]
  have e22 : addT s N o p b d C 2 s 2 = C 2 s 2 := by unfold addT; rw [if_neg (by omega), if_neg (by omega)]
  have e21 : addT s N o p b d C 2 s 1 = (N : Int) + 1 := by unfold addT; rw [if_pos ⟨rfl, rfl, rfl⟩]
  refine ⟨fun i hi => ?_, fun q f hq hf => ?_, fun j hj => ?_, fun q hq => ?_⟩
  · by_cases c : i = 2
    · subst c; rw [apM_2]; exact e21.symm
    · rw [apM_o (by omega) c, h1 i hi]
      have b' : i = 0 ∨ i = 1 ∨ i = 3 ∨ i = 4 ∨ i = 5 ∨ i = 6 ∨ i = 7 ∨ i = 8 ∨ i = 9 ∨ i = 10 ∨ i = 11 ∨ i = 12 ∨ i = 13 ∨ i = 14 := by omega
      have k1 := e 1 (by decide) (by decide)
      have k5 := e 5 (by decide) (by decide)
      rcases b' with rfl | rfl | rfl | rfl | rfl | rfl | rfl | rfl | rfl | rfl | rfl | rfl | rfl | rfl
      · exact e22.symm
      all_goals (first | exact (congrFun (congrFun k1 s) _).symm | exact (congrFun (congrFun k5 s) _).symm)
  · rw [apM_o (by omega) (by omega), e 4 (by decide) (by decide)]; exact h2 q f hq hf
  · rw [e22]
    by_cases c : j = N
    · subst c
      have er : addT s j o p b d C 10 (32 * s + j) = xbeg o p b d (C 2 s 2) := by funext f; unfold addT; rw [if_neg (by omega), if_pos ⟨rfl, rfl⟩]
      rw [er]
      have e0 : M 0 = C 2 s 2 := h1 0 (by decide)
      refine ⟨fun f h16 q6 q7 q8 => ?_, ?_, Or.inr ⟨?_, rfl, Or.inl ?_⟩⟩
      · show apM _ _ _ _ _ _ _ = _
        rw [apM_r (by omega), e0]
        have hf9 : f = 0 ∨ f = 1 ∨ f = 2 ∨ f = 3 ∨ f = 4 ∨ f = 5 ∨ f = 9 ∨ f = 10 ∨ f = 11 ∨ f = 12 ∨ f = 13 ∨ f = 14 ∨ f = 15 ∨ f = 16 := by omega
        rcases hf9 with rfl | rfl | rfl | rfl | rfl | rfl | rfl | rfl | rfl | rfl | rfl | rfl | rfl | rfl <;> rfl
      · show 0 ≤ apM _ _ _ _ _ _ _ ∧ apM _ _ _ _ _ _ _ ≤ _
        rw [apM_r (by decide)]
        show 0 ≤ (0 : Int) ∧ (0 : Int) ≤ 2000000
        decide
      · show (-1 : Int) ≤ _; omega
      · show apM _ _ _ _ _ _ _ = 0; rw [apM_r (by decide)]; rfl
    · have er : addT s N o p b d C 10 (32 * s + j) = C 10 (32 * s + j) := by funext f; unfold addT; rw [if_neg (by omega), if_neg (by omega)]
      rw [er]
      exact (h3 j (by omega)).g (fun f hf => apM_o (by omega) (by omega))
  · rw [apM_o (by omega) (by omega), e 25 (by decide) (by decide)]; exact h4 q hq
