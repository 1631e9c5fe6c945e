/-! PromiseMarketModel: who runs -/
section RR
variable {w : xW} {S C : xS} {B : String → xS → Prop} {s n N : Nat} {M : Nat → Int}
theorem r_X8_number {A : Int → xS → Prop} {a : Int} {i : Nat} (hR : Rel s n N C M) (e : a = (i : Int)) (hi : i < 15) (hq : A (gl s C i) (stM M S)) : Ki w mX8_number yX8_number 0 0 [xp 30 0, xi a] (stM M S) A B :=
  k_X8_number e (by omega) (by rw [stM_31, hR.1 i hi]; exact hq)
theorem r_X8_of {A : Int → xS → Prop} {a b : Int} {p g : Nat} (hR : Rel s n N C M) (ea : a = (p : Int)) (eb : b = (g : Int)) (hp : p < n) (hn : n ≤ 8) (hg : g < 11) (hq : A (C 4 (8 * s + p) g) (stM M S)) : Ki w mX8_of yX8_of 0 0 [xp 30 0, xi a, xi b] (stM M S) A B :=
  k_X8_of ea eb (by omega) hg (by rw [stM_31, hR.p hp hn hg]; exact hq)
theorem r_X8_told0 {A : Int → xS → Prop} {a b : Int} {j g : Nat} (hR : Rel s n N C M) (ea : a = (j : Int)) (eb : b = (g : Int)) (hj : j < N) (hN : N ≤ 20) (hg : g ≤ 16) (h6 : g ≠ 6) (h7 : g ≠ 7) (h8 : g ≠ 8) (hq : A (C 10 (32 * s + j) g) (stM M S)) : Ki w mX8_told0 yX8_told0 0 0 [xp 30 0, xi a, xi b] (stM M S) A B :=
  k_X8_told0 ea eb (by omega) (by omega) (by rw [stM_31, hR.q hj hg h6 h7 h8]; exact hq)
/-- of a living job -/
theorem Rel.qj {j g : Nat} (hR : Rel s n N C M) (hj : j < N) (hg : g = 6 ∨ g = 7 ∨ g = 8) (ha : C 2 s 2 < C 10 (32 * s + j) 7) : M (103 + 18 * j + g) = C 10 (32 * s + j) g := by
  have h := hR.2.2.1 j hj
  unfold PR at h
  dsimp only at h
  rcases hg with rfl | rfl | rfl <;> omega
theorem r_X8_told0j {A : Int → xS → Prop} {a b : Int} {j g : Nat} (hR : Rel s n N C M) (ea : a = (j : Int)) (eb : b = (g : Int)) (hj : j < N) (hN : N ≤ 20) (hg : g = 6 ∨ g = 7 ∨ g = 8) (ha : C 2 s 2 < C 10 (32 * s + j) 7) (hq : A (C 10 (32 * s + j) g) (stM M S)) : Ki w mX8_told0 yX8_told0 0 0 [xp 30 0, xi a, xi b] (stM M S) A B :=
  k_X8_told0 ea eb (by omega) (by omega) (by rw [stM_31, hR.qj hj hg ha]; exact hq)
theorem r_X8_put {A : xS → Prop} {a b v : Int} {p g : Nat} (hR : Rel s n N C M) (ea : a = (p : Int)) (eb : b = (g : Int)) (hp : p < n) (hn : n ≤ 8) (hN : N ≤ 20) (hg : g < 11) (hv : xr v) (hq : ∀ M', Rel s n N (up C 4 (8 * s + p) g v) M' → A (stM M' S)) : Kv w mX8_put yX8_put 0 0 [xp 30 0, xi a, xi b, xi v] (stM M S) A B :=
  k_X8_put ea eb (by omega) hg hv (by rw [up_stM]; exact hq _ (hR.pu hp hn hg hN))
theorem r_X8_add {A : xS → Prop} {a b v : Int} {p g : Nat} (hR : Rel s n N C M) (ea : a = (p : Int)) (eb : b = (g : Int)) (hp : p < n) (hn : n ≤ 8) (hN : N ≤ 20) (hg : g < 11) (hv : xr v) (hr : xr (C 4 (8 * s + p) g + v)) (hq : ∀ M', Rel s n N (up C 4 (8 * s + p) g (C 4 (8 * s + p) g + v)) M' → A (stM M' S)) : Kv w mX8_add yX8_add 0 0 [xp 30 0, xi a, xi b, xi v] (stM M S) A B :=
  k_X8_add ea eb (by omega) hg hv (by rw [stM_31, hR.p hp hn hg]; omega) (by rw [up_stM, stM_31, hR.p hp hn hg]; exact hq _ (hR.pu hp hn hg hN))
theorem r_X8_earn {A : xS → Prop} {a v : Int} {p : Nat} (hR : Rel s n N C M) (ea : a = (p : Int)) (hp : p < n) (hn : n ≤ 8) (hN : N ≤ 20) (hr : xr (C 4 (8 * s + p) 0 + v)) (hq : ∀ M', Rel s n N (up C 4 (8 * s + p) 0 (xmin 1000000 (C 4 (8 * s + p) 0 + v))) M' → A (stM M' S)) : Kv w mX8_earn yX8_earn 0 0 [xp 30 0, xi a, xi v] (stM M S) A B :=
  k_X8_earn ea (by omega) (by rw [stM_31, hR.p hp hn (by decide)]; exact hr) (by rw [up_stM, stM_31, hR.p hp hn (by decide)]; exact hq _ (hR.pu hp hn (by decide) hN))
theorem r_X8_keep {A : xS → Prop} {a b v : Int} {j g : Nat} (hR : Rel s n N C M) (ea : a = (j : Int)) (eb : b = (g : Int)) (hj : j < N) (hN : N ≤ 20) (hg : g ≤ 16) (h6 : g ≠ 6) (h7 : g ≠ 7) (h8 : g ≠ 8) (hv : xr v) (hq : ∀ M', Rel s n N (up C 10 (32 * s + j) g v) M' → A (stM M' S)) : Kv w mX8_keep yX8_keep 0 0 [xp 30 0, xi a, xi b, xi v] (stM M S) A B :=
  k_X8_keep ea eb (by omega) (by omega) hv (by rw [up_stM]; exact hq _ (hR.qu hj hN hg h6 h7 h8))
theorem r_X8_keepL {A : xS → Prop} {a b v : Int} {j : Nat} (hR : Rel s n N C M) (ea : a = (j : Int)) (eb : b = 6) (hj : j < N) (hN : N ≤ 20) (ha : C 2 s 2 < C 10 (32 * s + j) 7) (hv : xr v) (hq : ∀ M', Rel s n N (up C 10 (32 * s + j) 6 v) M' → A (stM M' S)) : Kv w mX8_keep yX8_keep 0 0 [xp 30 0, xi a, xi b, xi v] (stM M S) A B :=
  k_X8_keep (g := 6) ea eb (by omega) (by omega) hv (by rw [up_stM]; exact hq _ (hR.ql hj hN ha))
theorem r_X8_note {A : xS → Prop} {a b c : Int} {j g q : Nat} (hR : Rel s n N C M) (ea : a = (j : Int)) (eb : b = (g : Int)) (ec : c = (q : Int)) (hj : j < N) (hN : N ≤ 20) (hg : g ≤ 16) (h6 : g ≠ 6) (h7 : g ≠ 7) (h8 : g ≠ 8) (hc : q < 6) (h1 : x64 (C 10 (32 * s + j) g + 1)) (h2 : x64 (gl s C (6 + q) + 1)) (hq : ∀ M', Rel s n N (up (up C 10 (32 * s + j) g (C 10 (32 * s + j) g + 1)) (gk (6 + q)).1 s (gk (6 + q)).2 (gl s C (6 + q) + 1)) M' → A (stM M' S)) : Kv w mX8_note yX8_note 0 0 [xp 30 0, xi a, xi b, xi c] (stM M S) A B :=
  k_X8_note ea eb ec (by omega) (by omega) hc (by rw [stM_31, hR.q hj hg h6 h7 h8]; exact h1) (by rw [stM_31, hR.1 (6 + q) (by omega)]; exact h2) (by rw [stM_31, hR.q hj hg h6 h7 h8, hR.1 (6 + q) (by omega), up_stM, up_stM]; exact hq _ ((hR.qu hj hN hg h6 h7 h8).gu (by omega) (by omega)))
theorem X_gu {mi : xM} {TG : xT} {k m pc : Nat} {L st : List xV} {i : Nat} {v : Int} (hR : Rel s n N C M) (h3 : 3 ≤ i) (hi : i < 15) (kk : ∀ M', Rel s n N (up C (gk i).1 s (gk i).2 v) M' → X w mi TG k m pc L st (stM M' S)) : X w mi TG k m pc L st (up (stM M S) 31 0 i v) := by
  rw [up_stM]
  exact kk _ (hR.gu h3 hi)
end RR
set_option maxHeartbeats 400000 in
theorem f_X8_earliest {w : xW} {S : xS} {B : String → xS → Prop} {A : Int → xS → Prop} {s n N : Nat} {T : Int} {C : xS} {M : Nat → Int} (hV : VS s n N T C) (hT : T ≤ 1000000) (hR : Rel s n N C M) (hq0 : bstT s C N = none → A (-1) (stM M S)) (hq1 : ∀ b : Nat, bstT s C N = some b → A (b : Int) (stM M S)) : Ki w mX8_earliest yX8_earliest 0 0 [xp 30 0] (stM M S) A B := by
  refine K.of rfl rfl rfl rfl (Nat.le_of_ble_eq_true rfl) rfl ?_
  have h2 : M 2 = (N : Int) := by rw [hR.1 2 (by decide)]; exact hV.1.1
  have h0 : M 0 = C 2 s 2 := by rw [hR.1 0 (by decide)]; rfl
  have ht := hV.1.2.2.1
  have hN20 := hV.2.1
  have lp : ∀ i : Nat, i ≤ N → ∀ a3 : xV, X w mX8_earliest (xTG w (fun v S' => ∃ a, v = some (xi a) ∧ A a S') B) 0 0 4 [xp 30 0, (match bstT s C i with | none => xi (-1) | some b => xi (b : Int)), xi (i : Int), a3] [] (stM M S) := by
    refine nloop (N) (fun i hi ih a3 => ?_)
    have hPi : i < N → PR (C 2 s 2) (C 10 (32 * s + i)) (fun f => M (103 + 18 * i + f)) := fun z => hR.2.2.1 i z
    unfold PR at hPi
    dsimp only at hPi
    have hOi : i < N → OQ n (C 2 s 2) T (C 10 (32 * s + i)) := fun z => hV.o z
    unfold OQ at hOi
    have hTi : i < N → TQ (C 2 s 2) T (C 10 (32 * s + i)) := fun z => hV.t z
    unfold TQ at hTi
    cases hI : bstT s C i with
    | none =>
      refine xs_iload_2 eX8_earliest_4 ?_
      refine xa_i2l eX8_earliest_5 (by omega) ?_
      refine xs_aload_0 eX8_earliest_6 ?_
      refine g_X8_0 eX8_earliest_7 lRX8_7 ?_
      refine xa_iconst eX8_earliest_10 ?_
      refine gar_31 eX8_earliest_11 (by omega) (fun r11 => ?_)
      try simp (decide := true) only [h2, stM_31, show (0 : Int).toNat = 0 from rfl, show (1 : Int).toNat = 1 from rfl, show (2 : Int).toNat = 2 from rfl, show (3 : Int).toNat = 3 from rfl, show (4 : Int).toNat = 4 from rfl, show (5 : Int).toNat = 5 from rfl, show (6 : Int).toNat = 6 from rfl, show (7 : Int).toNat = 7 from rfl, show (8 : Int).toNat = 8 from rfl, show (9 : Int).toNat = 9 from rfl, show (10 : Int).toNat = 10 from rfl, show (11 : Int).toNat = 11 from rfl, show (12 : Int).toNat = 12 from rfl, show (13 : Int).toNat = 13 from rfl, show (14 : Int).toNat = 14 from rfl, Int.toNat_natCast] at r11 ⊢
      refine xa_lcmp eX8_earliest_12 (by omega) (by omega) ?_
      refine xa_ifc_ge (tgt := 74) eX8_earliest_13 (by decide) (fun c13 => ?_) (fun c13 => ?_)
      · refine xs_iload_1 eX8_earliest_74 ?_
        exact xa_iret eX8_earliest_75 rfl ⟨_, rfl, hq0 (by rw [show N = i by omega]; exact hI)⟩
      · refine xs_aload_0 eX8_earliest_16 ?_
        refine xs_iload_2 eX8_earliest_17 ?_
        refine xbi_V10 (mi' := mX8_hasJob) (y := yX8_hasJob) eX8_earliest_18 (xw_5 lRX8_143 wy_X8_hasJob) rfl ⟨wd_X8_hasJob, by decide, by decide⟩ (by decide) (fun _ => rfl) rfl (Nat.le_of_ble_eq_true rfl) rfl (k_X8_hasJob (j := i) rfl (by omega) (by rw [stM_31]; omega) (by rw [stM_31]; omega) ?_)
        simp only [stM_31]
        refine xa_ifb_eq (tgt := 38) eX8_earliest_21 (by decide) (fun c21 => ?_) (fun c21 => ?_)
        · refine xa_iconst eX8_earliest_38 ?_
          refine xs_istore_3 eX8_earliest_39 rfl ?_
          refine xs_iload_3 eX8_earliest_40 ?_
          refine xa_if_eq (tgt := 68) eX8_earliest_41 (by decide) (by decide) (fun c41 => ?_) (fun c41 => ?_)
          · refine xs_iinc_2 eX8_earliest_68 rfl ?_
            refine xa_goto (tgt := 4) eX8_earliest_71 (by decide) ?_
            have e : bstT s C (i + 1) = none := by rw [bstT, if_neg (by omega)]; exact hI
            have h9 := fun z => ih (i + 1) (by omega) (by omega) z
            rw [e] at h9
            exact h9 _
          · exact absurd rfl c41
        · refine xs_aload_0 eX8_earliest_24 ?_
          refine xs_iload_2 eX8_earliest_25 ?_
          refine xa_bipush eX8_earliest_26 (by decide) ?_
          refine xbi_V20 (mi' := mX8_told0) (y := yX8_told0) eX8_earliest_28 (xw_5 lRX8_122 wy_X8_told0) rfl ⟨wd_X8_told0, by decide, by decide⟩ (by decide) (fun _ => rfl) rfl (Nat.le_of_ble_eq_true rfl) rfl (k_X8_told0 (p := i) (g := 6) rfl rfl (by omega) (by decide) ?_)
          rw [stM_31]
          refine xa_if_le (tgt := 38) eX8_earliest_31 (by decide) (by omega) (fun c31 => ?_) (fun c31 => ?_)
          · refine xa_iconst eX8_earliest_38 ?_
            refine xs_istore_3 eX8_earliest_39 rfl ?_
            refine xs_iload_3 eX8_earliest_40 ?_
            refine xa_if_eq (tgt := 68) eX8_earliest_41 (by decide) (by decide) (fun c41 => ?_) (fun c41 => ?_)
            · refine xs_iinc_2 eX8_earliest_68 rfl ?_
              refine xa_goto (tgt := 4) eX8_earliest_71 (by decide) ?_
              have e : bstT s C (i + 1) = none := by rw [bstT, if_neg (by omega)]; exact hI
              have h9 := fun z => ih (i + 1) (by omega) (by omega) z
              rw [e] at h9
              exact h9 _
            · exact absurd rfl c41
          · refine xa_iconst eX8_earliest_34 ?_
            refine xa_goto (tgt := 39) eX8_earliest_35 (by decide) ?_
            refine xs_istore_3 eX8_earliest_39 rfl ?_
            refine xs_iload_3 eX8_earliest_40 ?_
            refine xa_if_eq (tgt := 68) eX8_earliest_41 (by decide) (by decide) (fun c41 => ?_) (fun c41 => ?_)
            · exact absurd c41 (by decide)
            · refine xs_iload_1 eX8_earliest_44 ?_
              refine xa_iconst eX8_earliest_45 ?_
              refine xa_icmp_eq (tgt := 66) eX8_earliest_46 (by decide) (by omega) (by decide) (fun c46 => ?_) (fun c46 => ?_)
              · refine xs_iload_2 eX8_earliest_66 ?_
                refine xs_istore_1 eX8_earliest_67 rfl ?_
                refine xs_iinc_2 eX8_earliest_68 rfl ?_
                refine xa_goto (tgt := 4) eX8_earliest_71 (by decide) ?_
                have e : bstT s C (i + 1) = (some i) := by rw [bstT, if_pos (by omega), hI]
                have h9 := fun z => ih (i + 1) (by omega) (by omega) z
                rw [e] at h9
                exact h9 _
              · exact absurd rfl c46
    | some b =>
      have hb := bstT_lt hI
      have hPb := hR.2.2.1 b (by omega)
      unfold PR at hPb
      dsimp only at hPb
      have hTb := hV.t (j := b) (by omega)
      unfold TQ at hTb
      refine xs_iload_2 eX8_earliest_4 ?_
      refine xa_i2l eX8_earliest_5 (by omega) ?_
      refine xs_aload_0 eX8_earliest_6 ?_
      refine g_X8_0 eX8_earliest_7 lRX8_7 ?_
      refine xa_iconst eX8_earliest_10 ?_
      refine gar_31 eX8_earliest_11 (by omega) (fun r11 => ?_)
      try simp (decide := true) only [h2, stM_31, show (0 : Int).toNat = 0 from rfl, show (1 : Int).toNat = 1 from rfl, show (2 : Int).toNat = 2 from rfl, show (3 : Int).toNat = 3 from rfl, show (4 : Int).toNat = 4 from rfl, show (5 : Int).toNat = 5 from rfl, show (6 : Int).toNat = 6 from rfl, show (7 : Int).toNat = 7 from rfl, show (8 : Int).toNat = 8 from rfl, show (9 : Int).toNat = 9 from rfl, show (10 : Int).toNat = 10 from rfl, show (11 : Int).toNat = 11 from rfl, show (12 : Int).toNat = 12 from rfl, show (13 : Int).toNat = 13 from rfl, show (14 : Int).toNat = 14 from rfl, Int.toNat_natCast] at r11 ⊢
      refine xa_lcmp eX8_earliest_12 (by omega) (by omega) ?_
      refine xa_ifc_ge (tgt := 74) eX8_earliest_13 (by decide) (fun c13 => ?_) (fun c13 => ?_)
      · refine xs_iload_1 eX8_earliest_74 ?_
        exact xa_iret eX8_earliest_75 rfl ⟨_, rfl, hq1 b (by rw [show N = i by omega]; exact hI)⟩
      · refine xs_aload_0 eX8_earliest_16 ?_
        refine xs_iload_2 eX8_earliest_17 ?_
        refine xbi_V10 (mi' := mX8_hasJob) (y := yX8_hasJob) eX8_earliest_18 (xw_5 lRX8_143 wy_X8_hasJob) rfl ⟨wd_X8_hasJob, by decide, by decide⟩ (by decide) (fun _ => rfl) rfl (Nat.le_of_ble_eq_true rfl) rfl (k_X8_hasJob (j := i) rfl (by omega) (by rw [stM_31]; omega) (by rw [stM_31]; omega) ?_)
        simp only [stM_31]
        refine xa_ifb_eq (tgt := 38) eX8_earliest_21 (by decide) (fun c21 => ?_) (fun c21 => ?_)
        · refine xa_iconst eX8_earliest_38 ?_
          refine xs_istore_3 eX8_earliest_39 rfl ?_
          refine xs_iload_3 eX8_earliest_40 ?_
          refine xa_if_eq (tgt := 68) eX8_earliest_41 (by decide) (by decide) (fun c41 => ?_) (fun c41 => ?_)
          · refine xs_iinc_2 eX8_earliest_68 rfl ?_
            refine xa_goto (tgt := 4) eX8_earliest_71 (by decide) ?_
            have e : bstT s C (i + 1) = (some b) := by rw [bstT, if_neg (by omega)]; exact hI
            have h9 := fun z => ih (i + 1) (by omega) (by omega) z
            rw [e] at h9
            exact h9 _
          · exact absurd rfl c41
        · refine xs_aload_0 eX8_earliest_24 ?_
          refine xs_iload_2 eX8_earliest_25 ?_
          refine xa_bipush eX8_earliest_26 (by decide) ?_
          refine xbi_V20 (mi' := mX8_told0) (y := yX8_told0) eX8_earliest_28 (xw_5 lRX8_122 wy_X8_told0) rfl ⟨wd_X8_told0, by decide, by decide⟩ (by decide) (fun _ => rfl) rfl (Nat.le_of_ble_eq_true rfl) rfl (k_X8_told0 (p := i) (g := 6) rfl rfl (by omega) (by decide) ?_)
          rw [stM_31]
          refine xa_if_le (tgt := 38) eX8_earliest_31 (by decide) (by omega) (fun c31 => ?_) (fun c31 => ?_)
          · refine xa_iconst eX8_earliest_38 ?_
            refine xs_istore_3 eX8_earliest_39 rfl ?_
            refine xs_iload_3 eX8_earliest_40 ?_
            refine xa_if_eq (tgt := 68) eX8_earliest_41 (by decide) (by decide) (fun c41 => ?_) (fun c41 => ?_)
            · refine xs_iinc_2 eX8_earliest_68 rfl ?_
              refine xa_goto (tgt := 4) eX8_earliest_71 (by decide) ?_
              have e : bstT s C (i + 1) = (some b) := by rw [bstT, if_neg (by omega)]; exact hI
              have h9 := fun z => ih (i + 1) (by omega) (by omega) z
              rw [e] at h9
              exact h9 _
            · exact absurd rfl c41
          · refine xa_iconst eX8_earliest_34 ?_
            refine xa_goto (tgt := 39) eX8_earliest_35 (by decide) ?_
            refine xs_istore_3 eX8_earliest_39 rfl ?_
            refine xs_iload_3 eX8_earliest_40 ?_
            refine xa_if_eq (tgt := 68) eX8_earliest_41 (by decide) (by decide) (fun c41 => ?_) (fun c41 => ?_)
            · exact absurd c41 (by decide)
            · refine xs_iload_1 eX8_earliest_44 ?_
              refine xa_iconst eX8_earliest_45 ?_
              refine xa_icmp_eq (tgt := 66) eX8_earliest_46 (by decide) (by omega) (by decide) (fun c46 => ?_) (fun c46 => ?_)
              · exact absurd c46 (by omega)
              · refine xs_aload_0 eX8_earliest_49 ?_
                refine xs_iload_2 eX8_earliest_50 ?_
                refine xa_bipush eX8_earliest_51 (by decide) ?_
                refine xbi_V20 (mi' := mX8_told0) (y := yX8_told0) eX8_earliest_53 (xw_5 lRX8_122 wy_X8_told0) rfl ⟨wd_X8_told0, by decide, by decide⟩ (by decide) (fun _ => rfl) rfl (Nat.le_of_ble_eq_true rfl) rfl (k_X8_told0 (p := i) (g := 7) rfl rfl (by omega) (by decide) ?_)
                rw [stM_31]
                refine xs_aload_0 eX8_earliest_56 ?_
                refine xs_iload_1 eX8_earliest_57 ?_
                refine xa_bipush eX8_earliest_58 (by decide) ?_
                refine xbi_V20 (mi' := mX8_told0) (y := yX8_told0) eX8_earliest_60 (xw_5 lRX8_122 wy_X8_told0) rfl ⟨wd_X8_told0, by decide, by decide⟩ (by decide) (fun _ => rfl) rfl (Nat.le_of_ble_eq_true rfl) rfl (k_X8_told0 (p := b) (g := 7) rfl rfl (by omega) (by decide) ?_)
                rw [stM_31]
                refine xa_icmp_ge (tgt := 68) eX8_earliest_63 (by decide) (by omega) (by omega) (fun c63 => ?_) (fun c63 => ?_)
                · refine xs_iinc_2 eX8_earliest_68 rfl ?_
                  refine xa_goto (tgt := 4) eX8_earliest_71 (by decide) ?_
                  have e : bstT s C (i + 1) = (some b) := by rw [bstT, if_pos (by omega), hI]; show (if _ then _ else _) = _; rw [if_neg (by omega)]
                  have h9 := fun z => ih (i + 1) (by omega) (by omega) z
                  rw [e] at h9
                  exact h9 _
                · refine xs_iload_2 eX8_earliest_66 ?_
                  refine xs_istore_1 eX8_earliest_67 rfl ?_
                  refine xs_iinc_2 eX8_earliest_68 rfl ?_
                  refine xa_goto (tgt := 4) eX8_earliest_71 (by decide) ?_
                  have e : bstT s C (i + 1) = (some i) := by rw [bstT, if_pos (by omega), hI]; show (if _ then _ else _) = _; rw [if_pos (by omega)]
                  have h9 := fun z => ih (i + 1) (by omega) (by omega) z
                  rw [e] at h9
                  exact h9 _
  refine xa_iconst eX8_earliest_0 ?_
  refine xs_istore_1 eX8_earliest_1 rfl ?_
  refine xa_iconst eX8_earliest_2 ?_
  refine xs_istore_2 eX8_earliest_3 rfl ?_
  exact lp 0 (by omega) xj
set_option maxHeartbeats 400000 in
theorem f_X8_highestBidder {w : xW} {S : xS} {B : String → xS → Prop} {A : Int → xS → Prop} {s n N : Nat} {T : Int} {C : xS} {M : Nat → Int} {h : Nat} (hV : VS s n N T C) (hT : T ≤ 1000000) (hR : Rel s n N C M) (hh : h < n) (hb0 : C 4 (8 * s + h) 1 ≤ 0) (hq0 : hbdS s C n = none → A (-1) (stM M S)) (hq1 : ∀ b : Nat, hbdS s C n = some b → A (b : Int) (stM M S)) : Ki w mX8_highestBidder yX8_highestBidder 0 0 [xp 30 0, xi (h : Int)] (stM M S) A B := by
  refine K.of rfl rfl rfl rfl (Nat.le_of_ble_eq_true rfl) rfl ?_
  have h1 : M 1 = (n : Int) := by rw [hR.1 1 (by decide)]; exact hV.g.1
  have hn8 := hV.2.2.1
  have lp : ∀ i : Nat, i ≤ n → ∀ a4 : xV, X w mX8_highestBidder (xTG w (fun v S' => ∃ a, v = some (xi a) ∧ A a S') B) 0 0 4 [xp 30 0, xi (h : Int), (match hbdS s C i with | none => xi (-1) | some b => xi (b : Int)), xi (i : Int), a4] [] (stM M S) := by
    refine nloop (n) (fun i hi ih a4 => ?_)
    have hPi : i < n → PQ T (C 4 (8 * s + i)) := fun z => hV.p z
    unfold PQ at hPi
    cases hI : hbdS s C i with
    | none =>
      refine xs_iload_3 eX8_highestBidder_4 ?_
      refine xa_i2l eX8_highestBidder_5 (by omega) ?_
      refine xs_aload_0 eX8_highestBidder_6 ?_
      refine g_X8_0 eX8_highestBidder_7 lRX8_7 ?_
      refine xa_iconst eX8_highestBidder_10 ?_
      refine gar_31 eX8_highestBidder_11 (by omega) (fun r11 => ?_)
      try simp (decide := true) only [h1, stM_31, show (0 : Int).toNat = 0 from rfl, show (1 : Int).toNat = 1 from rfl, show (2 : Int).toNat = 2 from rfl, show (3 : Int).toNat = 3 from rfl, show (4 : Int).toNat = 4 from rfl, show (5 : Int).toNat = 5 from rfl, show (6 : Int).toNat = 6 from rfl, show (7 : Int).toNat = 7 from rfl, show (8 : Int).toNat = 8 from rfl, show (9 : Int).toNat = 9 from rfl, show (10 : Int).toNat = 10 from rfl, show (11 : Int).toNat = 11 from rfl, show (12 : Int).toNat = 12 from rfl, show (13 : Int).toNat = 13 from rfl, show (14 : Int).toNat = 14 from rfl, Int.toNat_natCast] at r11 ⊢
      refine xa_lcmp eX8_highestBidder_12 (by omega) (by omega) ?_
      refine xa_ifc_ge (tgt := 94) eX8_highestBidder_13 (by decide) (fun c13 => ?_) (fun c13 => ?_)
      · refine xs_iload_2 eX8_highestBidder_94 ?_
        exact xa_iret eX8_highestBidder_95 rfl ⟨_, rfl, hq0 (by rw [show n = i by omega]; exact hI)⟩
      · refine xs_aload_0 eX8_highestBidder_16 ?_
        refine xs_iload_3 eX8_highestBidder_17 ?_
        refine xa_iconst eX8_highestBidder_18 ?_
        refine xbi_V20 (mi' := mX8_of) (y := yX8_of) eX8_highestBidder_19 (xw_5 lRX8_70 wy_X8_of) rfl ⟨wd_X8_of, by decide, by decide⟩ (by decide) (fun _ => rfl) rfl (Nat.le_of_ble_eq_true rfl) rfl (r_X8_of (p := i) (g := 1) hR rfl rfl (by omega) hn8 (by decide) ?_)
        refine xa_if_le (tgt := 53) eX8_highestBidder_22 (by decide) (by omega) (fun c22 => ?_) (fun c22 => ?_)
        · refine xa_iconst eX8_highestBidder_53 ?_
          refine xs_istore_4 eX8_highestBidder_54 rfl ?_
          refine xs_iload_3 eX8_highestBidder_56 ?_
          refine xs_iload_1 eX8_highestBidder_57 ?_
          refine xa_icmp_eq (tgt := 88) eX8_highestBidder_58 (by decide) (by omega) (by omega) (fun c58 => ?_) (fun c58 => ?_)
          · refine xs_iinc_3 eX8_highestBidder_88 rfl ?_
            refine xa_goto (tgt := 4) eX8_highestBidder_91 (by decide) ?_
            have e : hbdS s C (i + 1) = none := by rw [hbdS, if_neg (by omega)]; exact hI
            have h9 := fun z => ih (i + 1) (by omega) (by omega) z
            rw [e] at h9
            exact h9 _
          · refine xs_iload_4 eX8_highestBidder_61 ?_
            refine xa_if_eq (tgt := 88) eX8_highestBidder_63 (by decide) (by decide) (fun c63 => ?_) (fun c63 => ?_)
            · refine xs_iinc_3 eX8_highestBidder_88 rfl ?_
              refine xa_goto (tgt := 4) eX8_highestBidder_91 (by decide) ?_
              have e : hbdS s C (i + 1) = none := by rw [hbdS, if_neg (by omega)]; exact hI
              have h9 := fun z => ih (i + 1) (by omega) (by omega) z
              rw [e] at h9
              exact h9 _
            · exact absurd rfl c63
        · refine xs_aload_0 eX8_highestBidder_25 ?_
          refine xs_iload_3 eX8_highestBidder_26 ?_
          refine xa_iconst eX8_highestBidder_27 ?_
          refine xbi_V20 (mi' := mX8_of) (y := yX8_of) eX8_highestBidder_28 (xw_5 lRX8_70 wy_X8_of) rfl ⟨wd_X8_of, by decide, by decide⟩ (by decide) (fun _ => rfl) rfl (Nat.le_of_ble_eq_true rfl) rfl (r_X8_of (p := i) (g := 2) hR rfl rfl (by omega) hn8 (by decide) ?_)
          refine xa_if_le (tgt := 53) eX8_highestBidder_31 (by decide) (by omega) (fun c31 => ?_) (fun c31 => ?_)
          · refine xa_iconst eX8_highestBidder_53 ?_
            refine xs_istore_4 eX8_highestBidder_54 rfl ?_
            refine xs_iload_3 eX8_highestBidder_56 ?_
            refine xs_iload_1 eX8_highestBidder_57 ?_
            refine xa_icmp_eq (tgt := 88) eX8_highestBidder_58 (by decide) (by omega) (by omega) (fun c58 => ?_) (fun c58 => ?_)
            · refine xs_iinc_3 eX8_highestBidder_88 rfl ?_
              refine xa_goto (tgt := 4) eX8_highestBidder_91 (by decide) ?_
              have e : hbdS s C (i + 1) = none := by rw [hbdS, if_neg (by omega)]; exact hI
              have h9 := fun z => ih (i + 1) (by omega) (by omega) z
              rw [e] at h9
              exact h9 _
            · refine xs_iload_4 eX8_highestBidder_61 ?_
              refine xa_if_eq (tgt := 88) eX8_highestBidder_63 (by decide) (by decide) (fun c63 => ?_) (fun c63 => ?_)
              · refine xs_iinc_3 eX8_highestBidder_88 rfl ?_
                refine xa_goto (tgt := 4) eX8_highestBidder_91 (by decide) ?_
                have e : hbdS s C (i + 1) = none := by rw [hbdS, if_neg (by omega)]; exact hI
                have h9 := fun z => ih (i + 1) (by omega) (by omega) z
                rw [e] at h9
                exact h9 _
              · exact absurd rfl c63
          · refine xs_aload_0 eX8_highestBidder_34 ?_
            refine xs_iload_3 eX8_highestBidder_35 ?_
            refine xa_iconst eX8_highestBidder_36 ?_
            refine xbi_V20 (mi' := mX8_of) (y := yX8_of) eX8_highestBidder_37 (xw_5 lRX8_70 wy_X8_of) rfl ⟨wd_X8_of, by decide, by decide⟩ (by decide) (fun _ => rfl) rfl (Nat.le_of_ble_eq_true rfl) rfl (r_X8_of (p := i) (g := 0) hR rfl rfl (by omega) hn8 (by decide) ?_)
            refine xs_aload_0 eX8_highestBidder_40 ?_
            refine xs_iload_3 eX8_highestBidder_41 ?_
            refine xa_iconst eX8_highestBidder_42 ?_
            refine xbi_V20 (mi' := mX8_of) (y := yX8_of) eX8_highestBidder_43 (xw_5 lRX8_70 wy_X8_of) rfl ⟨wd_X8_of, by decide, by decide⟩ (by decide) (fun _ => rfl) rfl (Nat.le_of_ble_eq_true rfl) rfl (r_X8_of (p := i) (g := 2) hR rfl rfl (by omega) hn8 (by decide) ?_)
            refine xa_icmp_lt (tgt := 53) eX8_highestBidder_46 (by decide) (by omega) (by omega) (fun c46 => ?_) (fun c46 => ?_)
            · refine xa_iconst eX8_highestBidder_53 ?_
              refine xs_istore_4 eX8_highestBidder_54 rfl ?_
              refine xs_iload_3 eX8_highestBidder_56 ?_
              refine xs_iload_1 eX8_highestBidder_57 ?_
              refine xa_icmp_eq (tgt := 88) eX8_highestBidder_58 (by decide) (by omega) (by omega) (fun c58 => ?_) (fun c58 => ?_)
              · refine xs_iinc_3 eX8_highestBidder_88 rfl ?_
                refine xa_goto (tgt := 4) eX8_highestBidder_91 (by decide) ?_
                have e : hbdS s C (i + 1) = none := by rw [hbdS, if_neg (by omega)]; exact hI
                have h9 := fun z => ih (i + 1) (by omega) (by omega) z
                rw [e] at h9
                exact h9 _
              · refine xs_iload_4 eX8_highestBidder_61 ?_
                refine xa_if_eq (tgt := 88) eX8_highestBidder_63 (by decide) (by decide) (fun c63 => ?_) (fun c63 => ?_)
                · refine xs_iinc_3 eX8_highestBidder_88 rfl ?_
                  refine xa_goto (tgt := 4) eX8_highestBidder_91 (by decide) ?_
                  have e : hbdS s C (i + 1) = none := by rw [hbdS, if_neg (by omega)]; exact hI
                  have h9 := fun z => ih (i + 1) (by omega) (by omega) z
                  rw [e] at h9
                  exact h9 _
                · exact absurd rfl c63
            · refine xa_iconst eX8_highestBidder_49 ?_
              refine xa_goto (tgt := 54) eX8_highestBidder_50 (by decide) ?_
              refine xs_istore_4 eX8_highestBidder_54 rfl ?_
              refine xs_iload_3 eX8_highestBidder_56 ?_
              refine xs_iload_1 eX8_highestBidder_57 ?_
              refine xa_icmp_eq (tgt := 88) eX8_highestBidder_58 (by decide) (by omega) (by omega) (fun c58 => ?_) (fun c58 => ?_)
              · have e9 : i = h := by omega
                subst e9
                exact absurd c22 (by omega)
              · refine xs_iload_4 eX8_highestBidder_61 ?_
                refine xa_if_eq (tgt := 88) eX8_highestBidder_63 (by decide) (by decide) (fun c63 => ?_) (fun c63 => ?_)
                · exact absurd c63 (by decide)
                · refine xs_iload_2 eX8_highestBidder_66 ?_
                  refine xa_iconst eX8_highestBidder_67 ?_
                  refine xa_icmp_eq (tgt := 86) eX8_highestBidder_68 (by decide) (by omega) (by decide) (fun c68 => ?_) (fun c68 => ?_)
                  · refine xs_iload_3 eX8_highestBidder_86 ?_
                    refine xs_istore_2 eX8_highestBidder_87 rfl ?_
                    refine xs_iinc_3 eX8_highestBidder_88 rfl ?_
                    refine xa_goto (tgt := 4) eX8_highestBidder_91 (by decide) ?_
                    have e : hbdS s C (i + 1) = (some i) := by rw [hbdS, if_pos (by omega), hI]
                    have h9 := fun z => ih (i + 1) (by omega) (by omega) z
                    rw [e] at h9
                    exact h9 _
                  · exact absurd rfl c68
    | some b =>
      have hb := hbdS_lt hI
      have hPb := hV.p (p := b) (by omega)
      unfold PQ at hPb
      refine xs_iload_3 eX8_highestBidder_4 ?_
      refine xa_i2l eX8_highestBidder_5 (by omega) ?_
      refine xs_aload_0 eX8_highestBidder_6 ?_
      refine g_X8_0 eX8_highestBidder_7 lRX8_7 ?_
      refine xa_iconst eX8_highestBidder_10 ?_
      refine gar_31 eX8_highestBidder_11 (by omega) (fun r11 => ?_)
      try simp (decide := true) only [h1, stM_31, show (0 : Int).toNat = 0 from rfl, show (1 : Int).toNat = 1 from rfl, show (2 : Int).toNat = 2 from rfl, show (3 : Int).toNat = 3 from rfl, show (4 : Int).toNat = 4 from rfl, show (5 : Int).toNat = 5 from rfl, show (6 : Int).toNat = 6 from rfl, show (7 : Int).toNat = 7 from rfl, show (8 : Int).toNat = 8 from rfl, show (9 : Int).toNat = 9 from rfl, show (10 : Int).toNat = 10 from rfl, show (11 : Int).toNat = 11 from rfl, show (12 : Int).toNat = 12 from rfl, show (13 : Int).toNat = 13 from rfl, show (14 : Int).toNat = 14 from rfl, Int.toNat_natCast] at r11 ⊢
      refine xa_lcmp eX8_highestBidder_12 (by omega) (by omega) ?_
      refine xa_ifc_ge (tgt := 94) eX8_highestBidder_13 (by decide) (fun c13 => ?_) (fun c13 => ?_)
      · refine xs_iload_2 eX8_highestBidder_94 ?_
        exact xa_iret eX8_highestBidder_95 rfl ⟨_, rfl, hq1 b (by rw [show n = i by omega]; exact hI)⟩
      · refine xs_aload_0 eX8_highestBidder_16 ?_
        refine xs_iload_3 eX8_highestBidder_17 ?_
        refine xa_iconst eX8_highestBidder_18 ?_
        refine xbi_V20 (mi' := mX8_of) (y := yX8_of) eX8_highestBidder_19 (xw_5 lRX8_70 wy_X8_of) rfl ⟨wd_X8_of, by decide, by decide⟩ (by decide) (fun _ => rfl) rfl (Nat.le_of_ble_eq_true rfl) rfl (r_X8_of (p := i) (g := 1) hR rfl rfl (by omega) hn8 (by decide) ?_)
        refine xa_if_le (tgt := 53) eX8_highestBidder_22 (by decide) (by omega) (fun c22 => ?_) (fun c22 => ?_)
        · refine xa_iconst eX8_highestBidder_53 ?_
          refine xs_istore_4 eX8_highestBidder_54 rfl ?_
          refine xs_iload_3 eX8_highestBidder_56 ?_
          refine xs_iload_1 eX8_highestBidder_57 ?_
          refine xa_icmp_eq (tgt := 88) eX8_highestBidder_58 (by decide) (by omega) (by omega) (fun c58 => ?_) (fun c58 => ?_)
          · refine xs_iinc_3 eX8_highestBidder_88 rfl ?_
            refine xa_goto (tgt := 4) eX8_highestBidder_91 (by decide) ?_
            have e : hbdS s C (i + 1) = (some b) := by rw [hbdS, if_neg (by omega)]; exact hI
            have h9 := fun z => ih (i + 1) (by omega) (by omega) z
            rw [e] at h9
            exact h9 _
          · refine xs_iload_4 eX8_highestBidder_61 ?_
            refine xa_if_eq (tgt := 88) eX8_highestBidder_63 (by decide) (by decide) (fun c63 => ?_) (fun c63 => ?_)
            · refine xs_iinc_3 eX8_highestBidder_88 rfl ?_
              refine xa_goto (tgt := 4) eX8_highestBidder_91 (by decide) ?_
              have e : hbdS s C (i + 1) = (some b) := by rw [hbdS, if_neg (by omega)]; exact hI
              have h9 := fun z => ih (i + 1) (by omega) (by omega) z
              rw [e] at h9
              exact h9 _
            · exact absurd rfl c63
        · refine xs_aload_0 eX8_highestBidder_25 ?_
          refine xs_iload_3 eX8_highestBidder_26 ?_
          refine xa_iconst eX8_highestBidder_27 ?_
          refine xbi_V20 (mi' := mX8_of) (y := yX8_of) eX8_highestBidder_28 (xw_5 lRX8_70 wy_X8_of) rfl ⟨wd_X8_of, by decide, by decide⟩ (by decide) (fun _ => rfl) rfl (Nat.le_of_ble_eq_true rfl) rfl (r_X8_of (p := i) (g := 2) hR rfl rfl (by omega) hn8 (by decide) ?_)
          refine xa_if_le (tgt := 53) eX8_highestBidder_31 (by decide) (by omega) (fun c31 => ?_) (fun c31 => ?_)
          · refine xa_iconst eX8_highestBidder_53 ?_
            refine xs_istore_4 eX8_highestBidder_54 rfl ?_
            refine xs_iload_3 eX8_highestBidder_56 ?_
            refine xs_iload_1 eX8_highestBidder_57 ?_
            refine xa_icmp_eq (tgt := 88) eX8_highestBidder_58 (by decide) (by omega) (by omega) (fun c58 => ?_) (fun c58 => ?_)
            · refine xs_iinc_3 eX8_highestBidder_88 rfl ?_
              refine xa_goto (tgt := 4) eX8_highestBidder_91 (by decide) ?_
              have e : hbdS s C (i + 1) = (some b) := by rw [hbdS, if_neg (by omega)]; exact hI
              have h9 := fun z => ih (i + 1) (by omega) (by omega) z
              rw [e] at h9
              exact h9 _
            · refine xs_iload_4 eX8_highestBidder_61 ?_
              refine xa_if_eq (tgt := 88) eX8_highestBidder_63 (by decide) (by decide) (fun c63 => ?_) (fun c63 => ?_)
              · refine xs_iinc_3 eX8_highestBidder_88 rfl ?_
                refine xa_goto (tgt := 4) eX8_highestBidder_91 (by decide) ?_
                have e : hbdS s C (i + 1) = (some b) := by rw [hbdS, if_neg (by omega)]; exact hI
                have h9 := fun z => ih (i + 1) (by omega) (by omega) z
                rw [e] at h9
                exact h9 _
              · exact absurd rfl c63
          · refine xs_aload_0 eX8_highestBidder_34 ?_
            refine xs_iload_3 eX8_highestBidder_35 ?_
            refine xa_iconst eX8_highestBidder_36 ?_
            refine xbi_V20 (mi' := mX8_of) (y := yX8_of) eX8_highestBidder_37 (xw_5 lRX8_70 wy_X8_of) rfl ⟨wd_X8_of, by decide, by decide⟩ (by decide) (fun _ => rfl) rfl (Nat.le_of_ble_eq_true rfl) rfl (r_X8_of (p := i) (g := 0) hR rfl rfl (by omega) hn8 (by decide) ?_)
            refine xs_aload_0 eX8_highestBidder_40 ?_
            refine xs_iload_3 eX8_highestBidder_41 ?_
            refine xa_iconst eX8_highestBidder_42 ?_
            refine xbi_V20 (mi' := mX8_of) (y := yX8_of) eX8_highestBidder_43 (xw_5 lRX8_70 wy_X8_of) rfl ⟨wd_X8_of, by decide, by decide⟩ (by decide) (fun _ => rfl) rfl (Nat.le_of_ble_eq_true rfl) rfl (r_X8_of (p := i) (g := 2) hR rfl rfl (by omega) hn8 (by decide) ?_)
            refine xa_icmp_lt (tgt := 53) eX8_highestBidder_46 (by decide) (by omega) (by omega) (fun c46 => ?_) (fun c46 => ?_)
            · refine xa_iconst eX8_highestBidder_53 ?_
              refine xs_istore_4 eX8_highestBidder_54 rfl ?_
              refine xs_iload_3 eX8_highestBidder_56 ?_
              refine xs_iload_1 eX8_highestBidder_57 ?_
              refine xa_icmp_eq (tgt := 88) eX8_highestBidder_58 (by decide) (by omega) (by omega) (fun c58 => ?_) (fun c58 => ?_)
              · refine xs_iinc_3 eX8_highestBidder_88 rfl ?_
                refine xa_goto (tgt := 4) eX8_highestBidder_91 (by decide) ?_
                have e : hbdS s C (i + 1) = (some b) := by rw [hbdS, if_neg (by omega)]; exact hI
                have h9 := fun z => ih (i + 1) (by omega) (by omega) z
                rw [e] at h9
                exact h9 _
              · refine xs_iload_4 eX8_highestBidder_61 ?_
                refine xa_if_eq (tgt := 88) eX8_highestBidder_63 (by decide) (by decide) (fun c63 => ?_) (fun c63 => ?_)
                · refine xs_iinc_3 eX8_highestBidder_88 rfl ?_
                  refine xa_goto (tgt := 4) eX8_highestBidder_91 (by decide) ?_
                  have e : hbdS s C (i + 1) = (some b) := by rw [hbdS, if_neg (by omega)]; exact hI
                  have h9 := fun z => ih (i + 1) (by omega) (by omega) z
                  rw [e] at h9
                  exact h9 _
                · exact absurd rfl c63
            · refine xa_iconst eX8_highestBidder_49 ?_
              refine xa_goto (tgt := 54) eX8_highestBidder_50 (by decide) ?_
              refine xs_istore_4 eX8_highestBidder_54 rfl ?_
              refine xs_iload_3 eX8_highestBidder_56 ?_
              refine xs_iload_1 eX8_highestBidder_57 ?_
              refine xa_icmp_eq (tgt := 88) eX8_highestBidder_58 (by decide) (by omega) (by omega) (fun c58 => ?_) (fun c58 => ?_)
              · have e9 : i = h := by omega
                subst e9
                exact absurd c22 (by omega)
              · refine xs_iload_4 eX8_highestBidder_61 ?_
                refine xa_if_eq (tgt := 88) eX8_highestBidder_63 (by decide) (by decide) (fun c63 => ?_) (fun c63 => ?_)
                · exact absurd c63 (by decide)
                · refine xs_iload_2 eX8_highestBidder_66 ?_
                  refine xa_iconst eX8_highestBidder_67 ?_
                  refine xa_icmp_eq (tgt := 86) eX8_highestBidder_68 (by decide) (by omega) (by decide) (fun c68 => ?_) (fun c68 => ?_)
                  · exact absurd c68 (by omega)
                  · refine xs_aload_0 eX8_highestBidder_71 ?_
                    refine xs_iload_3 eX8_highestBidder_72 ?_
                    refine xa_iconst eX8_highestBidder_73 ?_
                    refine xbi_V20 (mi' := mX8_of) (y := yX8_of) eX8_highestBidder_74 (xw_5 lRX8_70 wy_X8_of) rfl ⟨wd_X8_of, by decide, by decide⟩ (by decide) (fun _ => rfl) rfl (Nat.le_of_ble_eq_true rfl) rfl (r_X8_of (p := i) (g := 2) hR rfl rfl (by omega) hn8 (by decide) ?_)
                    refine xs_aload_0 eX8_highestBidder_77 ?_
                    refine xs_iload_2 eX8_highestBidder_78 ?_
                    refine xa_iconst eX8_highestBidder_79 ?_
                    refine xbi_V20 (mi' := mX8_of) (y := yX8_of) eX8_highestBidder_80 (xw_5 lRX8_70 wy_X8_of) rfl ⟨wd_X8_of, by decide, by decide⟩ (by decide) (fun _ => rfl) rfl (Nat.le_of_ble_eq_true rfl) rfl (r_X8_of (p := b) (g := 2) hR rfl rfl (by omega) hn8 (by decide) ?_)
                    refine xa_icmp_le (tgt := 88) eX8_highestBidder_83 (by decide) (by omega) (by omega) (fun c83 => ?_) (fun c83 => ?_)
                    · refine xs_iinc_3 eX8_highestBidder_88 rfl ?_
                      refine xa_goto (tgt := 4) eX8_highestBidder_91 (by decide) ?_
                      have e : hbdS s C (i + 1) = (some b) := by rw [hbdS, if_pos (by omega), hI]; show (if _ then _ else _) = _; rw [if_neg (by omega)]
                      have h9 := fun z => ih (i + 1) (by omega) (by omega) z
                      rw [e] at h9
                      exact h9 _
                    · refine xs_iload_3 eX8_highestBidder_86 ?_
                      refine xs_istore_2 eX8_highestBidder_87 rfl ?_
                      refine xs_iinc_3 eX8_highestBidder_88 rfl ?_
                      refine xa_goto (tgt := 4) eX8_highestBidder_91 (by decide) ?_
                      have e : hbdS s C (i + 1) = (some i) := by rw [hbdS, if_pos (by omega), hI]; show (if _ then _ else _) = _; rw [if_pos (by omega)]
                      have h9 := fun z => ih (i + 1) (by omega) (by omega) z
                      rw [e] at h9
                      exact h9 _
  refine xa_iconst eX8_highestBidder_0 ?_
  refine xs_istore_2 eX8_highestBidder_1 rfl ?_
  refine xa_iconst eX8_highestBidder_2 ?_
  refine xs_istore_3 eX8_highestBidder_3 rfl ?_
  exact lp 0 (by omega) xj
set_option maxHeartbeats 400000 in
theorem f_X8_useFree {w : xW} {S : xS} {B : String → xS → Prop} {A : xS → Prop} {s n N : Nat} {T : Int} {C : xS} {M : Nat → Int} (hV : VS s n N T C) (hT : T ≤ 1000000) (hR : Rel s n N C M) (hq : ∀ M', Rel s n N (freS s n C) M' → A (stM M' S)) : Kv w mX8_useFree yX8_useFree 0 0 [xp 30 0] (stM M S) A B := by
  refine K.of rfl rfl rfl rfl (Nat.le_of_ble_eq_true rfl) rfl ?_
  have h1 : M 1 = (n : Int) := by rw [hR.1 1 (by decide)]; exact hV.g.1
  have hn8 := hV.2.2.1
  have hN20 := hV.2.1
  have hg := hV.g
  unfold GQ at hg
  have lp : ∀ i : Nat, i ≤ n → ∀ (c : Int) (a2 : xV) (_ : c = (if C 1 s 7 + (i : Int) < n then C 1 s 7 + (i : Int) else C 1 s 7 + (i : Int) - n) ∧ nxtS s n C (n - i) c = nxtS s n C n (C 1 s 7)), X w mX8_useFree (xTG w (fun v S' => v = none ∧ A S') B) 0 0 2 [xp 30 0, xi ((i : Int) + 1), a2] [] (stM M S) := by
    refine nloop (n) (fun i hi ih c a2 hI => ?_)
    have hg := hV.g
    unfold GQ at hg
    refine xs_iload_1 eX8_useFree_2 ?_
    refine xa_i2l eX8_useFree_3 (by omega) ?_
    refine xs_aload_0 eX8_useFree_4 ?_
    refine g_X8_0 eX8_useFree_5 lRX8_7 ?_
    refine xa_iconst eX8_useFree_8 ?_
    refine gar_31 eX8_useFree_9 (by omega) (fun r9 => ?_)
    try simp (decide := true) only [h1, stM_31, show (0 : Int).toNat = 0 from rfl, show (1 : Int).toNat = 1 from rfl, show (2 : Int).toNat = 2 from rfl, show (3 : Int).toNat = 3 from rfl, show (4 : Int).toNat = 4 from rfl, show (5 : Int).toNat = 5 from rfl, show (6 : Int).toNat = 6 from rfl, show (7 : Int).toNat = 7 from rfl, show (8 : Int).toNat = 8 from rfl, show (9 : Int).toNat = 9 from rfl, show (10 : Int).toNat = 10 from rfl, show (11 : Int).toNat = 11 from rfl, show (12 : Int).toNat = 12 from rfl, show (13 : Int).toNat = 13 from rfl, show (14 : Int).toNat = 14 from rfl, Int.toNat_natCast] at r9 ⊢
    refine xa_lcmp eX8_useFree_10 (by omega) (by omega) ?_
    refine xa_ifc_gt (tgt := 78) eX8_useFree_11 (by decide) (fun c11 => ?_) (fun c11 => ?_)
    · refine xs_aload_0 eX8_useFree_78 ?_
      refine g_X8_0 eX8_useFree_79 lRX8_7 ?_
      refine xa_bipush eX8_useFree_82 (by decide) ?_
      refine xa_dup2 eX8_useFree_84 rfl rfl ?_
      refine gar_31 eX8_useFree_85 (by omega) (fun r85 => ?_)
      try simp (decide := true) only [h1, stM_31, show (0 : Int).toNat = 0 from rfl, show (1 : Int).toNat = 1 from rfl, show (2 : Int).toNat = 2 from rfl, show (3 : Int).toNat = 3 from rfl, show (4 : Int).toNat = 4 from rfl, show (5 : Int).toNat = 5 from rfl, show (6 : Int).toNat = 6 from rfl, show (7 : Int).toNat = 7 from rfl, show (8 : Int).toNat = 8 from rfl, show (9 : Int).toNat = 9 from rfl, show (10 : Int).toNat = 10 from rfl, show (11 : Int).toNat = 11 from rfl, show (12 : Int).toNat = 12 from rfl, show (13 : Int).toNat = 13 from rfl, show (14 : Int).toNat = 14 from rfl, Int.toNat_natCast] at r85 ⊢
      refine xa_lconst1 eX8_useFree_86 ?_
      refine xa_ladd eX8_useFree_87 ?_
      refine pa_31 eX8_useFree_88 (by decide) (by rw [hR.1 10 (by decide)]; show x64 (C 1 s 12 + 1); omega) ?_
      rw [show (10 : Int).toNat = 10 from rfl, hR.1 10 (by decide)]
      refine X_gu (i := 10) hR (by decide) (by decide) (fun M1 hR1 => ?_)
      exact xa_vret eX8_useFree_89 rfl ⟨rfl, hq M1 (by have h9 : Rel s n N (up C 1 s 12 (C 1 s 12 + 1)) M1 := hR1; unfold freS; rw [← hI.2, show n - i = 0 by omega, nxtS, if_pos rfl]; exact h9)⟩
    · refine xs_aload_0 eX8_useFree_14 ?_
      refine xa_iconst eX8_useFree_15 ?_
      refine xbi_V10 (mi' := mX8_number) (y := yX8_number) eX8_useFree_16 (xw_5 lRX8_65 wy_X8_number) rfl ⟨wd_X8_number, by decide, by decide⟩ (by decide) (fun _ => rfl) rfl (Nat.le_of_ble_eq_true rfl) rfl (r_X8_number (i := 5) hR rfl (by decide) ?_)
      rw [show gl s C 5 = C 1 s 7 from rfl]
      refine xs_iload_1 eX8_useFree_19 ?_
      refine xa_iadd eX8_useFree_20 ?_
      refine xs_aload_0 eX8_useFree_21 ?_
      refine xa_iconst eX8_useFree_22 ?_
      refine xbi_V10 (mi' := mX8_number) (y := yX8_number) eX8_useFree_23 (xw_5 lRX8_65 wy_X8_number) rfl ⟨wd_X8_number, by decide, by decide⟩ (by decide) (fun _ => rfl) rfl (Nat.le_of_ble_eq_true rfl) rfl (r_X8_number (i := 1) hR rfl (by decide) ?_)
      rw [show gl s C 1 = (n : Int) from hV.g.1]
      refine xa_irem eX8_useFree_26 (by omega) (by omega) (by omega) ?_
      obtain ⟨q, hq9⟩ : ∃ q : Nat, Int.tmod (C 1 s 7 + ((i : Int) + 1)) (n : Int) = (q : Int) := ⟨(Int.tmod (C 1 s 7 + ((i : Int) + 1)) (n : Int)).toNat, by have := tmod_r (a := C 1 s 7 + ((i : Int) + 1)) (b := (n : Int)) (by omega) (by omega); omega⟩
      have hq8 := tmod_2 (a := C 1 s 7 + ((i : Int) + 1)) (n := (n : Int)) (by omega) (by omega) (by omega)
      rw [hq9] at hq8 ⊢
      have hqn : q < n := by have := tmod_r (a := C 1 s 7 + ((i : Int) + 1)) (b := (n : Int)) (by omega) (by omega); omega
      have hPq := hV.p hqn
      unfold PQ at hPq
      have ec : (if c + 1 < (n : Int) then c + 1 else 0) = (q : Int) := by rw [hq8]; (repeat split) <;> omega
      have e : nxtS s n C (n - i) c = (if 0 < C 4 (8 * s + q) 1 then (q : Int) else nxtS s n C (n - (i + 1)) (q : Int)) := by rw [show n - i = (n - (i + 1)) + 1 by omega, nxtS, ec, Int.toNat_natCast]
      refine xs_istore_2 eX8_useFree_27 rfl ?_
      refine xs_aload_0 eX8_useFree_28 ?_
      refine xs_iload_2 eX8_useFree_29 ?_
      refine xa_iconst eX8_useFree_30 ?_
      refine xbi_V20 (mi' := mX8_of) (y := yX8_of) eX8_useFree_31 (xw_5 lRX8_70 wy_X8_of) rfl ⟨wd_X8_of, by decide, by decide⟩ (by decide) (fun _ => rfl) rfl (Nat.le_of_ble_eq_true rfl) rfl (r_X8_of (p := q) (g := 1) hR rfl rfl (by omega) hn8 (by decide) ?_)
      refine xa_if_le (tgt := 72) eX8_useFree_34 (by decide) (by omega) (fun c34 => ?_) (fun c34 => ?_)
      · refine xs_iinc_1 eX8_useFree_72 rfl ?_
        refine xa_goto (tgt := 2) eX8_useFree_75 (by decide) ?_
        rw [if_neg (by omega)] at e
        have h9 := ih (i + 1) (by omega) (by omega) (q : Int) (xi (q : Int)) ⟨by rw [hq8]; (repeat split) <;> omega, by rw [← e]; exact hI.2⟩
        rw [show ((i + 1 : Nat) : Int) = (i : Int) + 1 from rfl] at h9
        exact h9
      · rw [if_pos (by omega)] at e
        rw [hI.2] at e
        refine xs_aload_0 eX8_useFree_37 ?_
        refine xs_iload_2 eX8_useFree_38 ?_
        refine xa_iconst eX8_useFree_39 ?_
        refine xa_iconst eX8_useFree_40 ?_
        refine xbv_V30 (mi' := mX8_add) (y := yX8_add) eX8_useFree_41 (xw_5 lRX8_210 wy_X8_add) rfl ⟨wd_X8_add, by decide, by decide⟩ (by decide) (fun _ => rfl) rfl (Nat.le_of_ble_eq_true rfl) rfl (r_X8_add (p := q) (g := 1) hR rfl rfl (by omega) hn8 hN20 (by decide) (by decide) (by omega) (fun M1 hR1 => ?_))
        refine xs_aload_0 eX8_useFree_44 ?_
        refine xs_iload_2 eX8_useFree_45 ?_
        refine xa_bipush eX8_useFree_46 (by decide) ?_
        refine xa_iconst eX8_useFree_48 ?_
        refine xbv_V30 (mi' := mX8_add) (y := yX8_add) eX8_useFree_49 (xw_5 lRX8_210 wy_X8_add) rfl ⟨wd_X8_add, by decide, by decide⟩ (by decide) (fun _ => rfl) rfl (Nat.le_of_ble_eq_true rfl) rfl (r_X8_add (p := q) (g := 7) hR1 rfl rfl (by omega) hn8 hN20 (by decide) (by decide) (by simp (decide := true) only [up_app, if_true, if_false, and_true, true_and, and_false, false_and, Nat.add_left_cancel_iff]; omega) (fun M2 hR2 => ?_))
        refine xs_aload_0 eX8_useFree_52 ?_
        refine g_X8_0 eX8_useFree_53 lRX8_7 ?_
        refine xa_iconst eX8_useFree_56 ?_
        refine xs_iload_2 eX8_useFree_57 ?_
        refine xa_i2l eX8_useFree_58 (by omega) ?_
        refine pa_31 eX8_useFree_59 (by decide) (by omega) ?_
        refine X_gu (i := 5) hR2 (by decide) (by decide) (fun M3 hR3 => ?_)
        refine xs_aload_0 eX8_useFree_60 ?_
        refine g_X8_0 eX8_useFree_61 lRX8_7 ?_
        refine xa_bipush eX8_useFree_64 (by decide) ?_
        refine xa_dup2 eX8_useFree_66 rfl rfl ?_
        refine gar_31 eX8_useFree_67 (by decide) (fun r67 => ?_)
        refine xa_lconst1 eX8_useFree_68 ?_
        refine xa_ladd eX8_useFree_69 ?_
        refine pa_31 eX8_useFree_70 (by decide) (by rw [stM_31, show (9 : Int).toNat = 9 from rfl, hR3.1 9 (by decide)]; show x64 (up _ 1 s 7 _ 1 s 11 + 1); simp (decide := true) only [up_app, if_true, if_false, and_true, true_and, and_false, false_and, Nat.add_left_cancel_iff]; omega) ?_
        rw [stM_31, show (9 : Int).toNat = 9 from rfl, hR3.1 9 (by decide)]
        refine X_gu (i := 9) hR3 (by decide) (by decide) (fun M4 hR4 => ?_)
        refine xa_vret eX8_useFree_71 rfl ⟨rfl, hq M4 ?_⟩
        have h9 : Rel s n N (up (up (up (up C 4 (8 * s + q) 1 (C 4 (8 * s + q) 1 - 1)) 4 (8 * s + q) 7 (C 4 (8 * s + q) 7 + 1)) 1 s 7 (q : Int)) 1 s 11 (C 1 s 11 + 1)) M4 := by
          have h8 := hR4
          rw [show gl s _ 9 = up _ 1 s 7 _ 1 s 11 from rfl] at h8
          simp (decide := true) only [up_app, if_true, if_false, and_true, true_and, and_false, false_and, Nat.add_left_cancel_iff] at h8
          exact h8
        unfold freS
        rw [e, if_neg (by omega), Int.toNat_natCast]
        unfold frpS
        rw [up_comm (by omega)]
        exact h9
  refine xa_iconst eX8_useFree_0 ?_
  refine xs_istore_1 eX8_useFree_1 rfl ?_
  exact lp 0 (by omega) (C 1 s 7) xj ⟨by split <;> omega, by rw [Nat.sub_zero]⟩
