/-! the class: parse -/
def pr0 (S : xS) : xS := up (up (up (clrS 4 S) 3 0 4 0) 3 0 5 (-1)) 3 0 8 0
theorem clrS_3 {s : Nat} {S : xS} {T : Int} (hT : 0 ≤ T) : clrS s S 3 = S 3 ∧ clrS s S 24 = S 24 := by
  unfold clrS
  constructor
  · funext y f
    simp (decide := true) only [up_app, clrV, if_false, false_and]
  · funext y f
    simp (decide := true) only [up_app, clrV, if_false, false_and]
theorem nx_tk {n : Nat} {S : xS} {s k : Int} : nx n (tk S s (S 3 0 8) k (S 3 0 9)) = nx n S := by
  unfold nx nxS
  rw [tk_tk, tk_24, tk_8, tk_9]
theorem PT_nx0 {n : Nat} {S : xS} (h1 : S 3 0 1 = (n : Int)) (h2 : n ≤ 700) (h8 : 0 ≤ S 3 0 8 ∧ S 3 0 8 ≤ (n : Int)) (h9 : 0 ≤ S 3 0 9 ∧ S 3 0 9 ≤ 10000000) : PT n (nx n S) ∧ (nx n S 3 0 6 = 0 ∨ S 3 0 8 + 1 ≤ nx n S 3 0 8) := by
  have hP : PT n (tk S 0 (S 3 0 8) 0 (S 3 0 9)) := ⟨h1, h2, ⟨Int.le_refl _, h8.1⟩, h8.2, h9, (show 0 ≤ (0 : Int) ∧ (0 : Int) < 5 by decide)⟩
  have a := hP.nx
  have b := nx_m hP
  rw [nx_tk] at a b
  refine ⟨a, ?_⟩
  by_cases c : nx n S 3 0 6 = 0
  · exact Or.inl c
  · exact Or.inr (b.2 c)
theorem chn_V {n : Nat} {T : Int} (hT : 0 ≤ T) : ∀ {f k N : Nat} {S : xS} {r : Bool × xS}, VP n k N T S → chn n f S r → r.1 = true → ∃ k' N', VP n k' N' T r.2
  | 0, k, N, S, r, h, hc, he => by
    obtain ⟨-, e⟩ := hc
    subst e
    exact ⟨k, N, h⟩
  | f + 1, k, N, S, r, h, hc, he => by
    have hN : N = (S 2 4 1).toNat := by rw [h.2.1.1]; rfl
    rcases hc with ⟨-, e⟩ | ⟨-, S1, hx, hc⟩
    · subst e; exact ⟨k, N, h⟩
    · rw [← hN] at hx hc
      rcases hc with ⟨c1, c2, c3⟩ | ⟨-, -, e⟩ | ⟨-, e⟩
      · obtain ⟨k2, N2, v0, -⟩ := rdStm_V h hT c1
        exact chn_V hT (rdSem_V (v0.x7 hx) c2).1 c3 he
      · subst e; cases he
      · subst e; cases he
set_option maxHeartbeats 400000 in
theorem f_X3_parse {w : xW} {S : xS} {B : String → xS → Prop} {A : Int → xS → Prop} {n : Nat} {T : Int} (hT : 0 ≤ T ∧ T ≤ 900000) (hn : S 3 0 1 = (n : Int)) (h7 : n ≤ 700) (hv : 0 ≤ S 3 0 9 ∧ S 3 0 9 ≤ 10000000) (hq : ∀ r : Bool × xS, chn n n (nx n (pr0 S)) r → A (b2i (r.1 = true)) r.2) : Ki w mX3_parse yX3_parse 0 0 [xp 3 0] S A B := by
  refine K.of rfl rfl rfl rfl (Nat.le_of_ble_eq_true rfl) rfl ?_
  refine xs_aload_0 eX3_parse_0 ?_
  refine g_X3_2 eX3_parse_1 lRX3_18 ?_
  refine xbv_V00 (mi' := mX4_clear) (y := yX4_clear) eX3_parse_4 (xw_5 lRX3_45 wy_X4_clear) rfl ⟨wd_X4_clear, by decide, by decide⟩ (by decide) (fun _ => rfl) rfl (Nat.le_of_ble_eq_true rfl) rfl (f_X4_clear ?_)
  refine xs_aload_0 eX3_parse_7 ?_
  refine xa_iconst eX3_parse_8 ?_
  refine p_X3_4 eX3_parse_9 lRX3_48 (by decide) ?_
  refine xs_aload_0 eX3_parse_12 ?_
  refine xa_iconst eX3_parse_13 ?_
  refine p_X3_5 eX3_parse_14 lRX3_29 (by decide) ?_
  refine xs_aload_0 eX3_parse_17 ?_
  refine xa_iconst eX3_parse_18 ?_
  refine p_X3_8 eX3_parse_19 lRX3_51 (by decide) ?_
  obtain ⟨P, hPe⟩ : ∃ P : xS, P = pr0 S := ⟨_, rfl⟩
  rw [show up (up (up (clrS 4 S) 3 0 4 0) 3 0 5 (-1)) 3 0 8 0 = tk P (P 3 0 7) ((0 : Nat) : Int) (P 3 0 6) (P 3 0 9) by rw [hPe]; exact (tk_self (S := pr0 S)).symm]
  have hl : P 3 0 1 = (n : Int) := by rw [hPe]; show clrS 4 S 3 0 1 = _; rw [(clrS_3 hT.1).1]; exact hn
  have hv9 : 0 ≤ P 3 0 9 ∧ P 3 0 9 ≤ 10000000 := by rw [hPe]; show 0 ≤ clrS 4 S 3 0 9 ∧ clrS 4 S 3 0 9 ≤ _; rw [(clrS_3 hT.1).1]; exact hv
  have h80 : P 3 0 8 = 0 := by rw [hPe]; rfl
  have hpn := PT_nx0 hl h7 ⟨by omega, by omega⟩ hv9
  have hvs : VS 4 0 0 T (nx n P) := VS_of (VS_of (VS.clr (s := 4) (S := S) hT.1) (fun a ha => by rw [hPe]; funext y f; show up (up (up (clrS 4 S) 3 0 4 0) 3 0 5 (-1)) 3 0 8 0 a y f = _; rw [up_k ha, up_k ha, up_k ha])) (fun a ha => nx_o ha)
  refine xs_aload_0 eX3_parse_22 ?_
  refine xbv_V00 (mi' := mX3_nextToken) (y := yX3_nextToken) eX3_parse_23 (xw_5 lRX3_54 wy_X3_nextToken) rfl ⟨wd_X3_nextToken, by decide, by decide⟩ (by decide) (fun _ => rfl) rfl (Nat.le_of_ble_eq_true rfl) rfl (k_X3_nextToken hl h7 (Nat.zero_le n) ?_)
  rw [show nxS n 0 (P 3 0 9) P = nx n P by unfold nx; rw [h80]; rfl]
  refine xa_iconst eX3_parse_26 ?_
  refine xs_istore_1 eX3_parse_27 rfl ?_
  exact l_X3_parse hT ⟨hpn.1, hvs⟩ (by rw [h80] at hpn; exact hpn.2) (fun r hr => hq r (by rw [← hPe]; exact hr))
