/-! the reference: read -/
theorem l0_X8_read {w : xW} {S : xS} {B : String → xS → Prop} {A : Int → xS → Prop} {L : List xV} (e : ¬ S 30 0 20 = 0) (hE : X w mX8_read (xTG w (fun v S' => ∃ a, v = some (xi a) ∧ A a S') B) 0 0 62 (xp 30 0 :: L) [] S) : X w mX8_read (xTG w (fun v S' => ∃ a, v = some (xi a) ∧ A a S') B) 0 0 41 (xp 30 0 :: L) [] S := by
  refine xs_aload_0 eX8_read_41 ?_
  refine xbi_V00 (mi' := mX8_isFine) (y := yX8_isFine) eX8_read_42 (xw_5 lRX8_320 wy_X8_isFine) rfl ⟨wd_X8_isFine, by decide, by decide⟩ (by decide) (fun _ => rfl) rfl (Nat.le_of_ble_eq_true rfl) rfl (k_X8_isFine ?_)
  refine xa_ifb_eq (tgt := 62) eX8_read_45 (by decide) (fun c45 => ?_) (fun c45 => ?_)
  · exact hE
  · exact absurd c45 e
theorem l1_X8_read {w : xW} {S : xS} {B : String → xS → Prop} {A : Int → xS → Prop} {L : List xV} (e : S 30 0 20 = 0) (h6 : S 30 0 17 = 0) (qz : X w mX8_read (xTG w (fun v S' => ∃ a, v = some (xi a) ∧ A a S') B) 0 0 62 (xp 30 0 :: L) [] S) : X w mX8_read (xTG w (fun v S' => ∃ a, v = some (xi a) ∧ A a S') B) 0 0 41 (xp 30 0 :: L) [] S := by
  refine xs_aload_0 eX8_read_41 ?_
  refine xbi_V00 (mi' := mX8_isFine) (y := yX8_isFine) eX8_read_42 (xw_5 lRX8_320 wy_X8_isFine) rfl ⟨wd_X8_isFine, by decide, by decide⟩ (by decide) (fun _ => rfl) rfl (Nat.le_of_ble_eq_true rfl) rfl (k_X8_isFine ?_)
  refine xa_ifb_eq (tgt := 62) eX8_read_45 (by decide) (fun c45 => ?_) (fun c45 => ?_)
  · exact absurd e c45
  · refine xs_aload_0 eX8_read_48 ?_
    refine gr_X8_17 eX8_read_49 lRX8_294 (fun r49 => ?_)
    refine xa_if_eq (tgt := 62) eX8_read_52 (by decide) (by omega) (fun c52 => ?_) (fun c52 => ?_)
    · exact qz
    · exact absurd h6 c52
theorem FW.trw {S1 S2 S3 : xS} (h : FW S3 S2) (g : FW S2 S1) : FW S3 S1 := h.tr g
set_option maxHeartbeats 400000 in
theorem l_X8_read {w : xW} {S0 : xS} {B : String → xS → Prop} {A : Int → xS → Prop} {L : List xV} {n : Nat} {T : Int} {r : Bool × xS} (hT : 0 ≤ T ∧ T ≤ 900000) (qz : r.1 = true → ∀ S' k' N', VP n k' N' T r.2 → FW S' S0 → S' 30 0 20 = 0 → Rel 4 k' N' r.2 (S' 31 0) → X w mX8_read (xTG w (fun v S' => ∃ a, v = some (xi a) ∧ A a S') B) 0 0 62 (xp 30 0 :: L) [] S') (qe : r.1 = false → ∀ S', FW S' S0 → S' 30 0 20 = r.2 3 0 4 → S' 30 0 21 = r.2 3 0 5 → ¬ S' 30 0 20 = 0 → X w mX8_read (xTG w (fun v S' => ∃ a, v = some (xi a) ∧ A a S') B) 0 0 62 (xp 30 0 :: L) [] S') : ∀ {f : Nat} {S C : xS} {k N : Nat}, VP n k N T C → TR n C S → S 30 0 20 = 0 → Rel 4 k N C (S 31 0) → FW S S0 → chn n f C r → X w mX8_read (xTG w (fun v S' => ∃ a, v = some (xi a) ∧ A a S') B) 0 0 41 (xp 30 0 :: L) [] S := by
  intro f
  induction f with
  | zero =>
    intro S C k N h tr e hR fw hc
    obtain ⟨h6, er⟩ := hc
    have hco := (cod_inj h.1.2.2.2.2.2).1
    exact l1_X8_read e (by rw [tr.2.2.2.1]; exact hco.mpr h6) (qz (by rw [er]) S k N (by rw [er]; exact h) fw e (by rw [er]; exact hR))
  | succ f ih =>
    intro S C k N h tr e hR fw hc
    have hco := (cod_inj h.1.2.2.2.2.2).1
    have ht := tr.2.2.2.1
    rcases hc with ⟨h6, er⟩ | ⟨h6, S1, hx, hc⟩
    · exact l1_X8_read e (by rw [ht]; exact hco.mpr h6) (qz (by rw [er]) S k N (by rw [er]; exact h) fw e (by rw [er]; exact hR))
    · have hN : N = (C 2 4 1).toNat := by rw [h.2.1.1]; rfl
      rw [← hN] at hx hc
      have hs := rdSem_7 (n := n) hx
      refine xs_aload_0 eX8_read_41 ?_
      refine xbi_V00 (mi' := mX8_isFine) (y := yX8_isFine) eX8_read_42 (xw_5 lRX8_320 wy_X8_isFine) rfl ⟨wd_X8_isFine, by decide, by decide⟩ (by decide) (fun _ => rfl) rfl (Nat.le_of_ble_eq_true rfl) rfl (k_X8_isFine ?_)
      refine xa_ifb_eq (tgt := 62) eX8_read_45 (by decide) (fun c45 => ?_) (fun c45 => ?_)
      · exact absurd e c45
      · refine xs_aload_0 eX8_read_48 ?_
        refine gr_X8_17 eX8_read_49 lRX8_294 (fun r49 => ?_)
        refine xa_if_eq (tgt := 62) eX8_read_52 (by decide) (by omega) (fun c52 => ?_) (fun c52 => ?_)
        · exact absurd (hco.mp (by rw [← ht]; exact c52)) h6
        · refine xs_aload_0 eX8_read_55 ?_
          refine xbv_V00 (mi' := mX8_parseStatement) (y := yX8_parseStatement) eX8_read_56 (xw_5 lRX8_362 wy_X8_parseStatement) rfl ⟨wd_X8_parseStatement, by decide, by decide⟩ (by decide) (fun _ => rfl) rfl (Nat.le_of_ble_eq_true rfl) rfl (p_X8_parseStatement h hT tr e hR (fun c1 c2 S' k' N' v t f z r9 => ?_) (fun c1 c2 S' f a b d => ?_) (fun c1 S' f a b d => ?_))
          · refine xa_goto (tgt := 41) eX8_read_59 (by decide) ?_
            rcases hc with ⟨d1, d2, d3⟩ | ⟨d1, d2, d3⟩ | ⟨d1, d3⟩
            · exact ih (v.x7 hs.2) (t.x7 hs.2) z (r9.x7 v.2.2.2.1 v.2.2.1 hs.2) (f.trw fw) d3
            · rw [hs.1, c2] at d2; cases d2
            · rw [c1] at d1; cases d1
          · refine xa_goto (tgt := 41) eX8_read_59 (by decide) ?_
            rcases hc with ⟨d1, d2, d3⟩ | ⟨d1, d2, d3⟩ | ⟨d1, d3⟩
            · rw [hs.1, c2] at d2; cases d2
            · exact l0_X8_read d (qe (by rw [d3]) _ (f.trw fw) (by rw [d3, a]; exact (congrFun (hs.2 3 0 (by omega) (by omega)) 4).symm) (by rw [d3, b]; exact (congrFun (hs.2 3 0 (by omega) (by omega)) 5).symm) d)
            · rw [c1] at d1; cases d1
          · refine xa_goto (tgt := 41) eX8_read_59 (by decide) ?_
            rcases hc with ⟨d1, d2, d3⟩ | ⟨d1, d2, d3⟩ | ⟨d1, d3⟩
            · rw [c1] at d1; cases d1
            · rw [c1] at d1; cases d1
            · exact l0_X8_read d (qe (by rw [d3]) _ (f.trw fw) (by rw [d3, a]; exact (congrFun (hx 3 0 (by omega) (by omega)) 4).symm) (by rw [d3, b]; exact (congrFun (hx 3 0 (by omega) (by omega)) 5).symm) d)
/-- what read leaves as it is -/
def RQ (S' S : xS) : Prop := (∀ k j, (k < 30 ∨ k = 33 ∨ k = 34 ∨ 41 ≤ k) → S' k j = S k j) ∧ S' 30 0 4 = 0
theorem RQ.of {S' S : xS} (h : FW S' (up (up (up (up (up (up (clrM 527 (cpA 31 0 32 0 527 (up S 30 0 4 0))) 31 0 3 5) 31 0 4 10) 31 0 5 (-1)) 30 0 20 0) 30 0 21 (-1)) 30 0 15 0)) : RQ (up S' 30 0 14 0) S := ⟨fun k j hk => by
  rw [up_oth (by omega), h.1 k j hk, up_oth (by omega), up_oth (by omega), up_oth (by omega), up_oth (by omega), up_oth (by omega), up_oth (by omega)]
  funext f
  unfold clrM
  rw [if_neg (by omega), cpA_o (by omega), up_oth (by omega)], by
  rw [up_f (by decide), h.2.2.1 4 (by decide) (by decide) (by decide), up_f (by decide), up_f (by decide), up_f (by decide), up_k (by decide), up_k (by decide), up_k (by decide)]
  unfold clrM
  rw [if_neg (by omega), cpA_o (by decide), up_same]⟩
theorem RQ.of2 {S' S : xS} (h : FW S' (up (up (up (up (up (up (clrM 527 (cpA 31 0 32 0 527 (up S 30 0 4 0))) 31 0 3 5) 31 0 4 10) 31 0 5 (-1)) 30 0 20 0) 30 0 21 (-1)) 30 0 15 0)) : RQ (cpA 32 0 31 0 527 (up S' 30 0 14 0)) S := ⟨fun k j hk => by rw [cpA_o (by omega)]; exact (RQ.of h).1 k j hk, by rw [cpA_o (by decide)]; exact (RQ.of h).2⟩
set_option maxHeartbeats 400000 in
theorem G_read {w : xW} {S : xS} {B : String → xS → Prop} {A : Int → xS → Prop} {C : xS} {n : Nat} {T : Int} {r : Bool × xS} (hT : 0 ≤ T ∧ T ≤ 900000) (tb : TB n C S) (hv : 0 ≤ C 3 0 9 ∧ C 3 0 9 ≤ 10000000) (hr : chn n n (nx n (pr0 C)) r) (q1 : r.1 = true → ∀ S' k N, VP n k N T r.2 → Rel 4 k N r.2 (S' 31 0) → RQ S' S → S' 30 0 14 = 0 → S' 30 0 20 = r.2 3 0 4 → S' 30 0 21 = r.2 3 0 5 → A (N : Int) S') (q0 : r.1 = false → ∀ S', (∀ i, i < 527 → S' 31 0 i = S 31 0 i) → RQ S' S → S' 30 0 14 = 0 → S' 30 0 20 = r.2 3 0 4 → S' 30 0 21 = r.2 3 0 5 → A (-1) S') : Ki w mX8_read yX8_read 0 0 [xp 30 0] S A B := by
  refine K.of rfl rfl rfl rfl (Nat.le_of_ble_eq_true rfl) rfl ?_
  have h7 := tb.2.2.1
  have hn14 : (up (up (up (up (up (up (clrM 527 (cpA 31 0 32 0 527 (up S 30 0 4 0))) 31 0 3 5) 31 0 4 10) 31 0 5 (-1)) 30 0 20 0) 30 0 21 (-1)) 30 0 15 0) 30 0 14 = (n : Int) := by rw [up_f (by decide), up_f (by decide), up_f (by decide), up_k (by decide), up_k (by decide), up_k (by decide)]; unfold clrM; rw [if_neg (by omega), cpA_o (by decide), up_f (by decide)]; exact tb.1
  have h41 : (up (up (up (up (up (up (clrM 527 (cpA 31 0 32 0 527 (up S 30 0 4 0))) 31 0 3 5) 31 0 4 10) 31 0 5 (-1)) 30 0 20 0) 30 0 21 (-1)) 30 0 15 0) 41 0 = S 41 0 := by funext i; rw [up_k (by decide), up_k (by decide), up_k (by decide), up_k (by decide), up_k (by decide), up_k (by decide)]; unfold clrM; rw [if_neg (by omega), cpA_o (by decide), up_k (by decide)]
  have hB : ∀ i, i < n → 0 ≤ (up (up (up (up (up (up (clrM 527 (cpA 31 0 32 0 527 (up S 30 0 4 0))) 31 0 3 5) 31 0 4 10) 31 0 5 (-1)) 30 0 20 0) 30 0 21 (-1)) 30 0 15 0) 41 0 i ∧ (up (up (up (up (up (up (clrM 527 (cpA 31 0 32 0 527 (up S 30 0 4 0))) 31 0 3 5) 31 0 4 10) 31 0 5 (-1)) 30 0 20 0) 30 0 21 (-1)) 30 0 15 0) 41 0 i ≤ 255 := by rw [h41]; exact tb.bytes
  have h31 : (up (up (up (up (up (up (clrM 527 (cpA 31 0 32 0 527 (up S 30 0 4 0))) 31 0 3 5) 31 0 4 10) 31 0 5 (-1)) 30 0 20 0) 30 0 21 (-1)) 30 0 15 0) 31 0 = (up (up (up (clrM 527 (cpA 31 0 32 0 527 (up S 30 0 4 0))) 31 0 3 5) 31 0 4 10) 31 0 5 (-1)) 31 0 := by funext i; rw [up_k (by decide), up_k (by decide), up_k (by decide)]
  have hbk : ∀ i, i < 527 → (up (up (up (up (up (up (clrM 527 (cpA 31 0 32 0 527 (up S 30 0 4 0))) 31 0 3 5) 31 0 4 10) 31 0 5 (-1)) 30 0 20 0) 30 0 21 (-1)) 30 0 15 0) 32 0 i = S 31 0 i := fun i hi => by rw [up_k (by decide), up_k (by decide), up_k (by decide), up_k (by decide), up_k (by decide), up_k (by decide)]; unfold clrM; rw [if_neg (by omega)]; unfold cpA; rw [if_pos ⟨rfl, rfl, by omega, by omega⟩, up_k (by decide)]; congr 1; omega
  have hV := VP_pr0 (T := T) hT.1 tb.2.1 h7 hv
  have hTB : TB n (pr0 C) (up (up (up (up (up (up (clrM 527 (cpA 31 0 32 0 527 (up S 30 0 4 0))) 31 0 3 5) 31 0 4 10) 31 0 5 (-1)) 30 0 20 0) 30 0 21 (-1)) 30 0 15 0) := ⟨hn14, (show clrS 4 C 3 0 1 = _ by rw [(clrS_3 hT.1).1]; exact tb.2.1), h7, by rw [h41, show pr0 C 24 = C 24 from (by unfold pr0; funext y f; rw [up_k (by decide), up_k (by decide), up_k (by decide), (clrS_3 hT.1).2])]; exact tb.2.2.2⟩
  have hTR : TR n (nx n (pr0 C)) (nxR n 0 (up (up (up (up (up (up (clrM 527 (cpA 31 0 32 0 527 (up S 30 0 4 0))) 31 0 3 5) 31 0 4 10) 31 0 5 (-1)) 30 0 20 0) 30 0 21 (-1)) 30 0 15 0)) := TR_nx (C := pr0 C) ⟨Int.le_refl _, Int.natCast_nonneg n⟩ hTB
  have he : nxR n 0 (up (up (up (up (up (up (clrM 527 (cpA 31 0 32 0 527 (up S 30 0 4 0))) 31 0 3 5) 31 0 4 10) 31 0 5 (-1)) 30 0 20 0) 30 0 21 (-1)) 30 0 15 0) 30 0 20 = 0 := by rw [nxR_20, up_f (by decide), up_f (by decide), up_same]
  have hRel : Rel 4 0 0 (nx n (pr0 C)) (nxR n 0 (up (up (up (up (up (up (clrM 527 (cpA 31 0 32 0 527 (up S 30 0 4 0))) 31 0 3 5) 31 0 4 10) 31 0 5 (-1)) 30 0 20 0) 30 0 21 (-1)) 30 0 15 0) 31 0) := by rw [FM.nx.1 31 (by decide), h31]; exact (Rel.clr (s := 4) (C := C)).cls (by decide) (by decide) (fun x y hx => by rw [nx_o (by omega)]; unfold pr0; funext f; rw [up_k (by omega), up_k (by omega), up_k (by omega)])
  refine xs_aload_0 eX8_read_0 ?_
  refine xa_iconst eX8_read_1 ?_
  refine p_X8_4 eX8_read_2 lRX8_52 (by decide) ?_
  refine xs_aload_0 eX8_read_5 ?_
  refine g_X8_0 eX8_read_6 lRX8_7 ?_
  refine xa_iconst eX8_read_9 ?_
  refine xs_aload_0 eX8_read_10 ?_
  refine g_X8_1 eX8_read_11 lRX8_13 ?_
  refine xa_iconst eX8_read_14 ?_
  refine xbv_S40 (mi' := mX8_copy) (y := yX8_copy) eX8_read_15 (xw_4 lRX8_180 wy_X8_copy) rfl rfl ⟨wd_X8_copy, by decide, by decide⟩ (Nat.le_of_ble_eq_true rfl) rfl (k_X8_copy_31_32 ?_)
  refine xs_aload_0 eX8_read_18 ?_
  refine xbv_V00 (mi' := mX8_clear) (y := yX8_clear) eX8_read_19 (xw_5 lRX8_49 wy_X8_clear) rfl ⟨wd_X8_clear, by decide, by decide⟩ (by decide) (fun _ => rfl) rfl (Nat.le_of_ble_eq_true rfl) rfl (k_X8_clear ?_)
  refine xs_aload_0 eX8_read_22 ?_
  refine xa_iconst eX8_read_23 ?_
  refine p_X8_20 eX8_read_24 lRX8_317 (by decide) ?_
  refine xs_aload_0 eX8_read_27 ?_
  refine xa_iconst eX8_read_28 ?_
  refine p_X8_21 eX8_read_29 lRX8_45 (by decide) ?_
  refine xs_aload_0 eX8_read_32 ?_
  refine xa_iconst eX8_read_33 ?_
  refine p_X8_15 eX8_read_34 lRX8_275 (by decide) ?_
  refine xs_aload_0 eX8_read_37 ?_
  refine xbv_V00 (mi' := mX8_nextToken) (y := yX8_nextToken) eX8_read_38 (xw_5 lRX8_323 wy_X8_nextToken) rfl ⟨wd_X8_nextToken, by decide, by decide⟩ (by decide) (fun _ => rfl) rfl (Nat.le_of_ble_eq_true rfl) rfl (f_X8_nextToken (n := n) (p := 0) rfl hn14 h7 hB (Nat.zero_le n) ?_)
  refine l_X8_read (S0 := (up (up (up (up (up (up (clrM 527 (cpA 31 0 32 0 527 (up S 30 0 4 0))) 31 0 3 5) 31 0 4 10) 31 0 5 (-1)) 30 0 20 0) 30 0 21 (-1)) 30 0 15 0)) hT (fun er S' k' N' v f z hR9 => ?_) (fun er S' f a b hE => ?_) hV hTR he hRel FM.nx.fw hr
  · refine xs_aload_0 eX8_read_62 ?_
    refine xa_iconst eX8_read_63 ?_
    refine p_X8_14 eX8_read_64 lRX8_264 (by decide) ?_
    refine xs_aload_0 eX8_read_67 ?_
    refine xbi_V00 (mi' := mX8_isFine) (y := yX8_isFine) eX8_read_68 (xw_5 lRX8_320 wy_X8_isFine) rfl ⟨wd_X8_isFine, by decide, by decide⟩ (by decide) (fun _ => rfl) rfl (Nat.le_of_ble_eq_true rfl) rfl (k_X8_isFine ?_)
    refine xa_ifb_ne (tgt := 89) eX8_read_71 (by decide) (fun c71 => ?_) (fun c71 => ?_)
    · refine xs_aload_0 eX8_read_89 ?_
      refine xa_iconst eX8_read_90 ?_
      refine xbi_V10 (mi' := mX8_number) (y := yX8_number) eX8_read_91 (xw_5 lRX8_65 wy_X8_number) rfl ⟨wd_X8_number, by decide, by decide⟩ (by decide) (fun _ => rfl) rfl (Nat.le_of_ble_eq_true rfl) rfl (k_X8_number (i := 2) rfl (by decide) ?_)
      exact xa_iret eX8_read_94 rfl ⟨_, rfl, by rw [show up S' 30 0 14 0 31 0 2 = (N' : Int) by rw [up_k (by decide), hR9.1 2 (by decide)]; exact v.2.1.1]; exact q1 er _ k' N' v (by rw [up_oth (by decide)]; exact hR9) (RQ.of f) rfl (by rw [up_f (by decide), z, (E4.chn hr er).1]; rfl) (by rw [up_f (by decide), (f.2.2.2 z).2, (E4.chn hr er).2]; rfl)⟩
    · exact absurd z c71
  · refine xs_aload_0 eX8_read_62 ?_
    refine xa_iconst eX8_read_63 ?_
    refine p_X8_14 eX8_read_64 lRX8_264 (by decide) ?_
    refine xs_aload_0 eX8_read_67 ?_
    refine xbi_V00 (mi' := mX8_isFine) (y := yX8_isFine) eX8_read_68 (xw_5 lRX8_320 wy_X8_isFine) rfl ⟨wd_X8_isFine, by decide, by decide⟩ (by decide) (fun _ => rfl) rfl (Nat.le_of_ble_eq_true rfl) rfl (k_X8_isFine ?_)
    refine xa_ifb_ne (tgt := 89) eX8_read_71 (by decide) (fun c71 => ?_) (fun c71 => ?_)
    · exact absurd c71 hE
    · refine xs_aload_0 eX8_read_74 ?_
      refine g_X8_1 eX8_read_75 lRX8_13 ?_
      refine xa_iconst eX8_read_78 ?_
      refine xs_aload_0 eX8_read_79 ?_
      refine g_X8_0 eX8_read_80 lRX8_7 ?_
      refine xa_iconst eX8_read_83 ?_
      refine xbv_S40 (mi' := mX8_copy) (y := yX8_copy) eX8_read_84 (xw_4 lRX8_180 wy_X8_copy) rfl rfl ⟨wd_X8_copy, by decide, by decide⟩ (Nat.le_of_ble_eq_true rfl) rfl (k_X8_copy_32_31 ?_)
      refine xa_iconst eX8_read_87 ?_
      exact xa_iret eX8_read_88 rfl ⟨_, rfl, q0 er _ (fun i hi => by unfold cpA; rw [if_pos ⟨rfl, rfl, by omega, by omega⟩, up_oth (by decide), f.2.1, show 0 + (i - 0) = i by omega]; exact hbk i hi) (RQ.of2 f) rfl (by rw [cpA_o (by decide), up_f (by decide)]; exact a) (by rw [cpA_o (by decide), up_f (by decide)]; exact b)⟩
