/-! load and mean price -/
set_option maxHeartbeats 400000 in
theorem F_load {w : xW} {S : xS} {B : String → xS → Prop} {A : UInt64 → xS → Prop} {n N : Nat} {T : Int} (hV : VS 0 n N T S) (hT : T ≤ 800000) (hA : ∀ D S', dsm (fun j => xshr (S 10 (32 * 0 + j))) (fun j => S 10 (32 * 0 + j) 0 = 0) N D → scr S' S → A D S') : Kd w mX7_load yX7_load 0 0 [xp 0 0] S A B := by
  refine K.of rfl rfl rfl rfl (Nat.le_of_ble_eq_true rfl) rfl ?_
  obtain ⟨hVT, hN20, h8, hg, hp9, ho9, hs⟩ := id hV
  have hn := hg.1
  have hN := hVT.1
  have ht := hVT.2.2.1
  refine xs_aload_0 eX7_load_0 ?_
  refine g_X7_0 eX7_load_1 lRX7_10 ?_
  refine g_X4_0 eX7_load_4 lRX7_88 ?_
  refine xbd_V00 (mi' := mX5_sumOfShares) (y := yX5_sumOfShares) eX7_load_7 (xw_5 lRX7_159 wy_X5_sumOfShares) rfl ⟨wd_X5_sumOfShares, by decide, by decide⟩ (by decide) (fun _ => rfl) rfl (Nat.le_of_ble_eq_true rfl) rfl (k_X5_sumOfShares hN (by omega) (fun j hj _ _ => by have z := hVT.2.2.2 j hj; unfold TQ at z; exact (psD_ddiv (by omega) (by omega)).vf) (fun j hj _ D hD => (psD_dadd (psD_dsm (fun i hi _ => ps_shr (hVT.2.2.2 i (by omega))) hD) (ps_shr (hVT.2.2.2 j hj))).vf) (fun D hD => ?_))
  exact xa_dret eX7_load_10 rfl ⟨_, rfl, hA D S hD scr.rf⟩
