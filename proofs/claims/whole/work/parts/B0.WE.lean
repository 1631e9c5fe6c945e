/-! the law: cases without an exception -/
theorem c_tightest {w : xW} {TG : xT} {k n nn N c : Nat} {i T : Int} {l5 l6 l7 l8 : xV} {S : xS} (h : INV T nn N c S) (hT : 0 ≤ T ∧ T ≤ 790000) (hi : 0 ≤ i ∧ i + 4 < (w.2.2.2.2.2.1 : Int)) (hN : w.2.2.2.2.2.1 < 2147483648) (hk : ∀ (n' N' c' : Nat) (S' : xS) (l5 l6 l7 l8 : xV), INV (T + 1500) n' N' c' S' → X w mL_law TG k n 2358 [xp 52 0, xp 0 0, xp 30 0, xp 42 0, xi i, l5, l6, l7, l8] [] S') : X w mL_law TG (k + 1) (n + 6) 1195 [xp 52 0, xp 0 0, xp 30 0, xp 42 0, xi i, l5, l6, l7, l8] [] S := by
  refine xs_aload_1 eL_law_1195 ?_
  refine xbi_V00 (mi' := mX7_tightest) (y := yX7_tightest) eL_law_1196 (xw_5 (xtb_in (i := 342) (by decide +kernel) (by decide +kernel)) wy_X7_tightest) rfl ⟨wd_X7_tightest, by decide, by decide⟩ (by decide) (fun _ => rfl) rfl (Nat.le_of_ble_eq_true rfl) rfl (F_tightest h.1 (by omega) (fun S1 e1 s1 => ?_))
  have hS1 : oS True (o_tightest nn N S) S1 := ⟨S1, s1, Or.inr ⟨Or.inr trivial, rfl⟩⟩
  have io := i_tightest h.1 h.2.1 (T := T) (by omega)
  have hR1 : Rel 0 nn N S (S1 31 0) := by rw [hS1.m io.2.2 (by decide) (by unfold sct; omega) (by omega) (by omega) (by omega) (by omega) (by omega) (by omega)]; exact h.2.2.1
  refine xs_aload_2 eL_law_1199 ?_
  refine X_store (stM_self S1).symm ?_
  refine xbi_V00 (mi' := mX8_tightest) (y := yX8_tightest) eL_law_1200 (xw_5 (xtb_in (i := 1419) (by decide +kernel) (by decide +kernel)) wy_X8_tightest) rfl ⟨wd_X8_tightest, by decide, by decide⟩ (by decide) (fun _ => rfl) rfl (Nat.le_of_ble_eq_true rfl) rfl (G_tightest h.1 (by omega) hR1 (fun r S2 M2 hr hf ht hrel => ?_))
  rw [hr rfl]
  refine xa_icmp_same (tgt := 2358) eL_law_1203 (by decide) ?_
  exact X_room (hk _ _ _ _ _ _ _ _ (h.step io hS1 hf hrel)) ⟨by omega, by omega⟩
theorem c_partners {w : xW} {TG : xT} {k n nn N c : Nat} {i T : Int} {l5 l6 l7 l8 : xV} {S : xS} (h : INV T nn N c S) (hT : 0 ≤ T ∧ T ≤ 790000) (hi : 0 ≤ i ∧ i + 4 < (w.2.2.2.2.2.1 : Int)) (hN : w.2.2.2.2.2.1 < 2147483648) (hk : ∀ (n' N' c' : Nat) (S' : xS) (l5 l6 l7 l8 : xV), INV (T + 1500) n' N' c' S' → X w mL_law TG k n 2358 [xp 52 0, xp 0 0, xp 30 0, xp 42 0, xi i, l5, l6, l7, l8] [] S') : X w mL_law TG (k + 1) (n + 6) 1701 [xp 52 0, xp 0 0, xp 30 0, xp 42 0, xi i, l5, l6, l7, l8] [] S := by
  refine xs_aload_1 eL_law_1701 ?_
  refine xbi_V00 (mi' := mX7_partners) (y := yX7_partners) eL_law_1702 (xw_5 (xtb_in (i := 406) (by decide +kernel) (by decide +kernel)) wy_X7_partners) rfl ⟨wd_X7_partners, by decide, by decide⟩ (by decide) (fun _ => rfl) rfl (Nat.le_of_ble_eq_true rfl) rfl (F_partners h.1 (by omega) (fun S1 e1 s1 => ?_))
  have hS1 : oS True (o_partners nn N S) S1 := ⟨S1, s1, Or.inr ⟨Or.inr trivial, rfl⟩⟩
  have io := i_partners h.1 h.2.1 (T := T) (by omega)
  have hR1 : Rel 0 nn N S (S1 31 0) := by rw [hS1.m io.2.2 (by decide) (by unfold sct; omega) (by omega) (by omega) (by omega) (by omega) (by omega) (by omega)]; exact h.2.2.1
  refine xs_aload_2 eL_law_1705 ?_
  refine X_store (stM_self S1).symm ?_
  refine xbi_V00 (mi' := mX8_partners) (y := yX8_partners) eL_law_1706 (xw_5 (xtb_in (i := 1474) (by decide +kernel) (by decide +kernel)) wy_X8_partners) rfl ⟨wd_X8_partners, by decide, by decide⟩ (by decide) (fun _ => rfl) rfl (Nat.le_of_ble_eq_true rfl) rfl (G_partners h.1 (by omega) hR1 (fun r S2 M2 hr hf ht hrel => ?_))
  rw [hr rfl]
  refine xa_icmp_same (tgt := 2358) eL_law_1709 (by decide) ?_
  exact X_room (hk _ _ _ _ _ _ _ _ (h.step io hS1 hf hrel)) ⟨by omega, by omega⟩
theorem c_bank {w : xW} {TG : xT} {k n nn N c : Nat} {i T : Int} {l5 l6 l7 l8 : xV} {S : xS} (h : INV T nn N c S) (hT : 0 ≤ T ∧ T ≤ 790000) (hi : 0 ≤ i ∧ i + 4 < (w.2.2.2.2.2.1 : Int)) (hN : w.2.2.2.2.2.1 < 2147483648) (hk : ∀ (n' N' c' : Nat) (S' : xS) (l5 l6 l7 l8 : xV), INV (T + 1500) n' N' c' S' → X w mL_law TG k n 2358 [xp 52 0, xp 0 0, xp 30 0, xp 42 0, xi i, l5, l6, l7, l8] [] S') : X w mL_law TG (k + 1) (n + 6) 1861 [xp 52 0, xp 0 0, xp 30 0, xp 42 0, xi i, l5, l6, l7, l8] [] S := by
  refine xs_aload_1 eL_law_1861 ?_
  refine xbl_V00 (mi' := mX7_bank) (y := yX7_bank) eL_law_1862 (xw_5 (xtb_in (i := 423) (by decide +kernel) (by decide +kernel)) wy_X7_bank) rfl ⟨wd_X7_bank, by decide, by decide⟩ (by decide) (fun _ => rfl) rfl (Nat.le_of_ble_eq_true rfl) rfl (F_bank h.1 (by omega) (fun S1 e1 s1 => ?_))
  have hS1 : oS True (o_bank nn N S) S1 := ⟨S1, s1, Or.inr ⟨Or.inr trivial, rfl⟩⟩
  have io := i_bank h.1 h.2.1 (T := T) (by omega)
  have hR1 : Rel 0 nn N S (S1 31 0) := by rw [hS1.m io.2.2 (by decide) (by unfold sct; omega) (by omega) (by omega) (by omega) (by omega) (by omega) (by omega)]; exact h.2.2.1
  refine xs_aload_2 eL_law_1865 ?_
  refine X_store (stM_self S1).symm ?_
  refine xbl_V00 (mi' := mX8_bank) (y := yX8_bank) eL_law_1866 (xw_5 (xtb_in (i := 1497) (by decide +kernel) (by decide +kernel)) wy_X8_bank) rfl ⟨wd_X8_bank, by decide, by decide⟩ (by decide) (fun _ => rfl) rfl (Nat.le_of_ble_eq_true rfl) rfl (G_bank h.1 (by omega) hR1 (fun r S2 M2 hr hf ht hrel => ?_))
  rw [hr rfl]
  refine xa_lcmp_same eL_law_1869 ?_
  refine xa_if_eq (tgt := 2358) eL_law_1870 (by decide) (by decide) (fun c => ?_) (fun c => absurd rfl c)
  exact X_room (hk _ _ _ _ _ _ _ _ (h.step io hS1 hf hrel)) ⟨by omega, by omega⟩
theorem c_spare {w : xW} {TG : xT} {k n nn N c : Nat} {i T : Int} {l5 l6 l7 l8 : xV} {S : xS} (h : INV T nn N c S) (hT : 0 ≤ T ∧ T ≤ 790000) (hi : 0 ≤ i ∧ i + 4 < (w.2.2.2.2.2.1 : Int)) (hN : w.2.2.2.2.2.1 < 2147483648) (hk : ∀ (n' N' c' : Nat) (S' : xS) (l5 l6 l7 l8 : xV), INV (T + 1500) n' N' c' S' → X w mL_law TG k n 2358 [xp 52 0, xp 0 0, xp 30 0, xp 42 0, xi i, l5, l6, l7, l8] [] S') : X w mL_law TG (k + 1) (n + 6) 1336 [xp 52 0, xp 0 0, xp 30 0, xp 42 0, xi i, l5, l6, l7, l8] [] S := by
  refine xs_aload_1 eL_law_1336 ?_
  refine xbi_V00 (mi' := mX7_spare) (y := yX7_spare) eL_law_1337 (xw_5 (xtb_in (i := 370) (by decide +kernel) (by decide +kernel)) wy_X7_spare) rfl ⟨wd_X7_spare, by decide, by decide⟩ (by decide) (fun _ => rfl) rfl (Nat.le_of_ble_eq_true rfl) rfl (F_spare h.1 (by omega) (fun S1 s1 => ?_))
  have hS1 : oS True (0, 0, nn, N, S) S1 := ⟨S1, s1, Or.inr ⟨Or.inr trivial, rfl⟩⟩
  have io : Ivo T S (0, 0, nn, N, S) := Ivo.same h.1 h.2.1
  have hR1 : Rel 0 nn N S (S1 31 0) := by rw [hS1.m io.2.2 (by decide) (by unfold sct; omega) (by omega) (by omega) (by omega) (by omega) (by omega) (by omega)]; exact h.2.2.1
  refine xs_aload_2 eL_law_1340 ?_
  refine X_store (stM_self S1).symm ?_
  refine xbi_V00 (mi' := mX8_spare) (y := yX8_spare) eL_law_1341 (xw_5 (xtb_in (i := 1431) (by decide +kernel) (by decide +kernel)) wy_X8_spare) rfl ⟨wd_X8_spare, by decide, by decide⟩ (by decide) (fun _ => rfl) rfl (Nat.le_of_ble_eq_true rfl) rfl (G_spare h.1 (by omega) hR1 (h.2.1.ok 360) (fun S2 hf ht => ?_))
  refine xa_icmp_same (tgt := 2358) eL_law_1344 (by decide) ?_
  exact X_room (hk _ _ _ _ _ _ _ _ (h.step io hS1 hf hR1)) ⟨by omega, by omega⟩
theorem c_load {w : xW} {TG : xT} {k n nn N c : Nat} {i T : Int} {l5 l6 l7 l8 : xV} {S : xS} (h : INV T nn N c S) (hT : 0 ≤ T ∧ T ≤ 790000) (hi : 0 ≤ i ∧ i + 4 < (w.2.2.2.2.2.1 : Int)) (hN : w.2.2.2.2.2.1 < 2147483648) (hk : ∀ (n' N' c' : Nat) (S' : xS) (l5 l6 l7 l8 : xV), INV (T + 1500) n' N' c' S' → X w mL_law TG k n 2358 [xp 52 0, xp 0 0, xp 30 0, xp 42 0, xi i, l5, l6, l7, l8] [] S') : X w mL_law TG (k + 1) (n + 6) 1295 [xp 52 0, xp 0 0, xp 30 0, xp 42 0, xi i, l5, l6, l7, l8] [] S := by
  refine xs_aload_1 eL_law_1295 ?_
  refine xbd_V00 (mi' := mX7_load) (y := yX7_load) eL_law_1296 (xw_5 (xtb_in (i := 358) (by decide +kernel) (by decide +kernel)) wy_X7_load) rfl ⟨wd_X7_load, by decide, by decide⟩ (by decide) (fun _ => rfl) rfl (Nat.le_of_ble_eq_true rfl) rfl (F_load h.1 (by omega) (fun DD S1 hD s1 => ?_))
  have hS1 : oS True (0, 0, nn, N, S) S1 := ⟨S1, s1, Or.inr ⟨Or.inr trivial, rfl⟩⟩
  have io : Ivo T S (0, 0, nn, N, S) := Ivo.same h.1 h.2.1
  have hR1 : Rel 0 nn N S (S1 31 0) := by rw [hS1.m io.2.2 (by decide) (by unfold sct; omega) (by omega) (by omega) (by omega) (by omega) (by omega) (by omega)]; exact h.2.2.1
  refine xs_dstore_5 eL_law_1299 rfl ?_
  refine xs_aload_2 eL_law_1301 ?_
  refine X_store (stM_self S1).symm ?_
  refine xbd_V00 (mi' := mX8_load) (y := yX8_load) eL_law_1302 (xw_5 (xtb_in (i := 1427) (by decide +kernel) (by decide +kernel)) wy_X8_load) rfl ⟨wd_X8_load, by decide, by decide⟩ (by decide) (fun _ => rfl) rfl (Nat.le_of_ble_eq_true rfl) rfl (G_load h.1 (by omega) hR1 (fun D2 S2 M2 hD2 hf ht hrel => ?_))
  obtain rfl := dsm.fn hD hD2
  refine xs_dstore_7 eL_law_1305 rfl ?_
  refine xs_dload_5 eL_law_1307 ?_
  refine xs_dload_7 eL_law_1309 ?_
  refine xa_dcmp (z := (Op.cmpValue (FP.dcmp DD DD) .l).toInt) eL_law_1311 (Int32.ofInt_toInt _).symm ?_
  refine xa_if_eq (tgt := 1333) eL_law_1312 (by decide) (xs_r _) (fun c => ?_) (fun c => ?_)
  · refine xa_goto (tgt := 2358) eL_law_1333 (by decide) ?_
    exact X_room (hk _ _ _ _ _ _ _ _ (h.step io hS1 hf hrel)) ⟨by omega, by omega⟩
  · refine xs_dload_5 eL_law_1315 ?_
    refine xs_dload_5 eL_law_1317 ?_
    refine xa_dcmp (z := (Op.cmpValue (FP.dcmp DD DD) .l).toInt) eL_law_1319 (Int32.ofInt_toInt _).symm ?_
    refine xa_if_eq (tgt := 1331) eL_law_1320 (by decide) (xs_r _) (fun c2 => absurd c2 c) (fun _ => ?_)
    refine xs_dload_7 eL_law_1323 ?_
    refine xs_dload_7 eL_law_1325 ?_
    refine xa_dcmp (z := (Op.cmpValue (FP.dcmp DD DD) .l).toInt) eL_law_1327 (Int32.ofInt_toInt _).symm ?_
    refine xa_if_ne (tgt := 1333) eL_law_1328 (by decide) (xs_r _) (fun _ => ?_) (fun c2 => absurd c2 c)
    refine xa_goto (tgt := 2358) eL_law_1333 (by decide) ?_
    exact X_room (hk _ _ _ _ _ _ _ _ (h.step io hS1 hf hrel)) ⟨by omega, by omega⟩
theorem vf_f2d {a : UInt32} (h : Jvm.FP.Core.val32 a ≠ .nan) : vf_n64 (FP.f2d a) := by
  apply vf64
  unfold FP.f2d
  have h2 := (Jvm.FP.Core.notNaN_iff32 a).mpr h
  rw [if_neg (fun c => by rw [h2] at c; cases c), Jvm.FP.Core.val64_f2d]
  cases e : Jvm.FP.Core.val32 a with
  | nan => exact absurd e h
  | inf s => exact Jvm.FP.Core.Datum.noConfusion
  | fin s c q =>
    have z : (∃ c' q', Jvm.FP.Core.round Jvm.FP.Core.b64 (.fin s c q) = .fin s c' q') ∨ Jvm.FP.Core.round Jvm.FP.Core.b64 (.fin s c q) = .inf s := Jvm.FP.Core.roundRatio_cases _ _ _ _ _
    rcases z with ⟨c', q', z⟩ | z <;> rw [z] <;> exact Jvm.FP.Core.Datum.noConfusion
theorem vf_mean {t p : Int} (ht : xr t) (hp : xr p) : vf_n64 (FP.f2d (meanF t p)) := by
  apply vf_f2d
  unfold meanF
  split
  · decide +kernel
  · rename_i c
    apply (Jvm.FP.Core.notNaN_iff32 _).mp
    refine Jvm.FP.Core.fdiv_out ?_ (Jvm.FP.Core.i2f_fin _) ?_
    · exact (Jvm.FP.Core.notNaN_iff32 _).mpr (by obtain ⟨s, c, q, h⟩ := Jvm.FP.Core.i2f_fin (Int32.ofInt p); rw [h]; exact Jvm.FP.Core.Datum.noConfusion)
    · intro z
      have h3 := (Jvm.FP.Core.zero_bits232 _).mp z
      have h4 := (Jvm.FP.Core.i2f_big (v := Int32.ofInt t) (by rw [xn_ti ht]; exact c)).1
      have h5 : (FP.i2f (Int32.ofInt t)).toNat % 2 ^ 31 = (Jvm.FP.Core.i2f (Int32.ofInt t)).toNat % 2 ^ 31 := rfl
      omega
theorem c_meanPrice {w : xW} {TG : xT} {k n nn N c : Nat} {i T : Int} {l5 l6 l7 l8 : xV} {S : xS} (h : INV T nn N c S) (hT : 0 ≤ T ∧ T ≤ 790000) (hi : 0 ≤ i ∧ i + 4 < (w.2.2.2.2.2.1 : Int)) (hN : w.2.2.2.2.2.1 < 2147483648) (hk : ∀ (n' N' c' : Nat) (S' : xS) (l5 l6 l7 l8 : xV), INV (T + 1500) n' N' c' S' → X w mL_law TG k n 2358 [xp 52 0, xp 0 0, xp 30 0, xp 42 0, xi i, l5, l6, l7, l8] [] S') : X w mL_law TG (k + 1) (n + 6) 1714 [xp 52 0, xp 0 0, xp 30 0, xp 42 0, xi i, l5, l6, l7, l8] [] S := by
  have hs5 := h.1.2.2.2.2.2.2
  unfold SQ at hs5
  have vm : vf_n64 (FP.f2d (meanF (S 5 0 1) (S 5 0 2))) := vf_mean (by omega) (by omega)
  refine xs_aload_1 eL_law_1714 ?_
  refine xbf_V00 (mi' := mX7_meanPrice) (y := yX7_meanPrice) eL_law_1715 (xw_5 (xtb_in (i := 414) (by decide +kernel) (by decide +kernel)) wy_X7_meanPrice) rfl ⟨wd_X7_meanPrice, by decide, by decide⟩ (by decide) (fun _ => rfl) rfl (Nat.le_of_ble_eq_true rfl) rfl (F_meanPrice h.1 (by omega) (fun S1 s1 => ?_))
  have hS1 : oS True (0, 0, nn, N, S) S1 := ⟨S1, s1, Or.inr ⟨Or.inr trivial, rfl⟩⟩
  have io : Ivo T S (0, 0, nn, N, S) := Ivo.same h.1 h.2.1
  have hR1 : Rel 0 nn N S (S1 31 0) := by rw [hS1.m io.2.2 (by decide) (by unfold sct; omega) (by omega) (by omega) (by omega) (by omega) (by omega) (by omega)]; exact h.2.2.1
  refine xa_f2d eL_law_1718 vm ?_
  generalize hDD : FP.f2d (meanF (S 5 0 1) (S 5 0 2)) = DD at vm
  refine xs_dstore_5 eL_law_1719 rfl ?_
  refine xs_aload_2 eL_law_1721 ?_
  refine X_store (stM_self S1).symm ?_
  refine xbf_V00 (mi' := mX8_meanPrice) (y := yX8_meanPrice) eL_law_1722 (xw_5 (xtb_in (i := 1478) (by decide +kernel) (by decide +kernel)) wy_X8_meanPrice) rfl ⟨wd_X8_meanPrice, by decide, by decide⟩ (by decide) (fun _ => rfl) rfl (Nat.le_of_ble_eq_true rfl) rfl (G_meanPrice h.1 (by omega) hR1 (fun S2 M2 hf ht hrel => ?_))
  refine xa_f2d eL_law_1725 (by rw [hDD]; exact vm) ?_
  rw [hDD]
  refine xs_dstore_7 eL_law_1726 rfl ?_
  refine xs_dload_5 eL_law_1728 ?_
  refine xs_dload_7 eL_law_1730 ?_
  refine xa_dcmp (z := (Op.cmpValue (FP.dcmp DD DD) .l).toInt) eL_law_1732 (Int32.ofInt_toInt _).symm ?_
  refine xa_if_eq (tgt := 1754) eL_law_1733 (by decide) (xs_r _) (fun c => ?_) (fun c => ?_)
  · refine xa_goto (tgt := 2358) eL_law_1754 (by decide) ?_
    exact X_room (hk _ _ _ _ _ _ _ _ (h.step io hS1 hf hrel)) ⟨by omega, by omega⟩
  · refine xs_dload_5 eL_law_1736 ?_
    refine xs_dload_5 eL_law_1738 ?_
    refine xa_dcmp (z := (Op.cmpValue (FP.dcmp DD DD) .l).toInt) eL_law_1740 (Int32.ofInt_toInt _).symm ?_
    refine xa_if_eq (tgt := 1752) eL_law_1741 (by decide) (xs_r _) (fun c2 => absurd c2 c) (fun _ => ?_)
    refine xs_dload_7 eL_law_1744 ?_
    refine xs_dload_7 eL_law_1746 ?_
    refine xa_dcmp (z := (Op.cmpValue (FP.dcmp DD DD) .l).toInt) eL_law_1748 (Int32.ofInt_toInt _).symm ?_
    refine xa_if_ne (tgt := 1754) eL_law_1749 (by decide) (xs_r _) (fun _ => ?_) (fun c2 => absurd c2 c)
    refine xa_goto (tgt := 2358) eL_law_1754 (by decide) ?_
    exact X_room (hk _ _ _ _ _ _ _ _ (h.step io hS1 hf hrel)) ⟨by omega, by omega⟩
theorem c_errorCode {w : xW} {TG : xT} {k n nn N c : Nat} {i T : Int} {l5 l6 l7 l8 : xV} {S : xS} (h : INV T nn N c S) (hT : 0 ≤ T ∧ T ≤ 790000) (hi : 0 ≤ i ∧ i + 4 < (w.2.2.2.2.2.1 : Int)) (hN : w.2.2.2.2.2.1 < 2147483648) (hk : ∀ (n' N' c' : Nat) (S' : xS) (l5 l6 l7 l8 : xV), INV (T + 1500) n' N' c' S' → X w mL_law TG k n 2358 [xp 52 0, xp 0 0, xp 30 0, xp 42 0, xi i, l5, l6, l7, l8] [] S') : X w mL_law TG (k + 1) (n + 6) 2260 [xp 52 0, xp 0 0, xp 30 0, xp 42 0, xi i, l5, l6, l7, l8] [] S := by
  refine xs_aload_1 eL_law_2260 ?_
  refine xbi_V00 (mi' := mX7_errorCode) (y := yX7_errorCode) eL_law_2261 (xw_5 (xtb_in (i := 702) (by decide +kernel) (by decide +kernel)) wy_X7_errorCode) rfl ⟨wd_X7_errorCode, by decide, by decide⟩ (by decide) (fun _ => rfl) rfl (Nat.le_of_ble_eq_true rfl) rfl (F_errorCode ?_)
  refine xs_aload_2 eL_law_2264 ?_
  refine xbi_V00 (mi' := mX8_errorCode) (y := yX8_errorCode) eL_law_2265 (xw_5 (xtb_in (i := 1596) (by decide +kernel) (by decide +kernel)) wy_X8_errorCode) rfl ⟨wd_X8_errorCode, by decide, by decide⟩ (by decide) (fun _ => rfl) rfl (Nat.le_of_ble_eq_true rfl) rfl (G_errorCode ?_)
  rw [show S 30 0 20 = S 3 0 4 from h.2.2.2.1.2.1]
  refine xa_icmp_same (tgt := 2358) eL_law_2268 (by decide) ?_
  exact X_room (hk _ _ _ _ _ _ _ _ ((h.mono (by omega)).eq (fun x a _ => by funext y; exact up_oth (by omega)) (fun g hg => up_f (by omega)))) ⟨by omega, by omega⟩
theorem c_errorPosition {w : xW} {TG : xT} {k n nn N c : Nat} {i T : Int} {l5 l6 l7 l8 : xV} {S : xS} (h : INV T nn N c S) (hT : 0 ≤ T ∧ T ≤ 790000) (hi : 0 ≤ i ∧ i + 4 < (w.2.2.2.2.2.1 : Int)) (hN : w.2.2.2.2.2.1 < 2147483648) (hk : ∀ (n' N' c' : Nat) (S' : xS) (l5 l6 l7 l8 : xV), INV (T + 1500) n' N' c' S' → X w mL_law TG k n 2358 [xp 52 0, xp 0 0, xp 30 0, xp 42 0, xi i, l5, l6, l7, l8] [] S') : X w mL_law TG (k + 1) (n + 6) 2273 [xp 52 0, xp 0 0, xp 30 0, xp 42 0, xi i, l5, l6, l7, l8] [] S := by
  refine xs_aload_1 eL_law_2273 ?_
  refine xbi_V00 (mi' := mX7_errorPosition) (y := yX7_errorPosition) eL_law_2274 (xw_5 (xtb_in (i := 706) (by decide +kernel) (by decide +kernel)) wy_X7_errorPosition) rfl ⟨wd_X7_errorPosition, by decide, by decide⟩ (by decide) (fun _ => rfl) rfl (Nat.le_of_ble_eq_true rfl) rfl (F_errorPosition ?_)
  refine xs_aload_2 eL_law_2277 ?_
  refine xbi_V00 (mi' := mX8_errorPosition) (y := yX8_errorPosition) eL_law_2278 (xw_5 (xtb_in (i := 1600) (by decide +kernel) (by decide +kernel)) wy_X8_errorPosition) rfl ⟨wd_X8_errorPosition, by decide, by decide⟩ (by decide) (fun _ => rfl) rfl (Nat.le_of_ble_eq_true rfl) rfl (G_errorPosition ?_)
  rw [show S 30 0 21 = S 3 0 5 from h.2.2.2.1.2.2.1]
  refine xa_icmp_same (tgt := 2358) eL_law_2281 (by decide) ?_
  exact X_room (hk _ _ _ _ _ _ _ _ ((h.mono (by omega)).eq (fun x a _ => by funext y; exact up_oth (by omega)) (fun g hg => up_f (by omega)))) ⟨by omega, by omega⟩
