/-! the reference: spare, saved states, small ones -/
set_option maxHeartbeats 400000 in
theorem F_spare {w : xW} {S : xS} {B : String → xS → Prop} {A : Int → xS → Prop} {n N : Nat} {T : Int} (hV : VS 0 n N T S) (hT : T ≤ 800000) (hA : ∀ S', scr S' S → A (freT 0 N 360 S) S') : Ki w mX7_spare yX7_spare 0 0 [xp 0 0] S A B := by
  refine K.of rfl rfl rfl rfl (Nat.le_of_ble_eq_true rfl) rfl ?_
  obtain ⟨hVT, hN20, h8, hg, hp9, ho9, hs⟩ := id hV
  have hn := hg.1
  have hN := hVT.1
  have ht := hVT.2.2.1
  refine xs_aload_0 eX7_spare_0 ?_
  refine g_X7_4 eX7_spare_1 lRX7_30 ?_
  refine xs_aload_0 eX7_spare_4 ?_
  refine g_X7_0 eX7_spare_5 lRX7_10 ?_
  refine g_X4_0 eX7_spare_8 lRX7_88 ?_
  refine xbv_V10 (mi' := mX5_copyFrom) (y := yX5_copyFrom) eX7_spare_11 (xw_5 lRX7_119 wy_X5_copyFrom) rfl ⟨wd_X5_copyFrom, by decide, by decide⟩ (by decide) (fun _ => rfl) rfl (Nat.le_of_ble_eq_true rfl) rfl (f_X5_copyFrom (t := 0) (u := 5) (by decide) hVT (by omega) ?_)
  refine xs_aload_0 eX7_spare_14 ?_
  refine g_X7_4 eX7_spare_15 lRX7_30 ?_
  refine xbi_V00 (mi' := mX5_passFreeTicks) (y := yX5_passFreeTicks) eX7_spare_18 (xw_5 lRX7_163 wy_X5_passFreeTicks) rfl ⟨wd_X5_passFreeTicks, by decide, by decide⟩ (by decide) (fun _ => rfl) rfl (Nat.le_of_ble_eq_true rfl) rfl (f_X5_passFreeTicks hVT.cpy (by omega) (fun S1 hx1 => ?_))
  exact xa_iret eX7_spare_21 rfl ⟨_, rfl, by have h9 := hA S1 ((hx1.tr (cpyT_fr (by omega))).scr (by decide)); rw [← (tlq.cpy (t := 0) (u := 5) (N := N) (C := S)).fre] at h9; exact h9⟩
