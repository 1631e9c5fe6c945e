/-! the law: what it asks the class, on: calls that may throw; single figures -/
set_option maxHeartbeats 400000 in
theorem w_promise {w : xW} {S C : xS} {B : String → xS → Prop} {A : Int → xS → Prop} {N : Nat} {T q : Int} (hB : BS q C S) (hV : VS 0 4 N T C) (hT : T ≤ 800000) {o : Nat} {p b d : Int} (ho : o < 4) (hw : wshP p b d) (h1 : N < 20 → accF 0 5 N p b d C = true → ∀ S', BS q (addT 0 N (o : Int) p b d S) S' → A (N : Int) S') (h3 : ¬ (N < 20 ∧ accF 0 5 N p b d C = true) → ∀ S', BS q C S' → A (-103) S') : Ki w mL_promise yL_promise 1 6 [xp 0 0, xi (o : Int), xi p, xi b, xi d] S A B := by
  have hS := hB.V hV
  have hN := hV.2.1
  by_cases c : N < 20 ∧ accF 0 5 N p b d C = true
  · have eo : o_promise ((o : Int)) p b d 4 N S = (0, (N : Int), 4, N + 1, addT 0 N (o : Int) p b d S) := by
      unfold o_promise
      rw [if_pos ⟨by omega, by omega⟩, if_pos hw, if_pos c.1, if_pos (by rw [hB.acc hN]; exact c.2)]
    refine K.ofH rfl rfl rfl rfl (Nat.le_of_ble_eq_true rfl) rfl ?_
    refine xs_aload_0 eL_promise_0 ?_
    refine xs_iload_1 eL_promise_1 ?_
    refine xs_iload_2 eL_promise_2 ?_
    refine xs_iload_3 eL_promise_3 ?_
    refine xs_iload_4 eL_promise_4 ?_
    refine xbi_V4 (mi' := mX7_promise) (y := yX7_promise) eL_promise_6 (xw_5 lRL_71 wy_X7_promise) rfl ⟨wd_X7_promise, by decide, by decide⟩ (by decide) (fun _ => rfl) rfl (Nat.le_of_ble_eq_true rfl) rfl ⟨by decide, by decide⟩ (F_promise hS hT (by omega) (by have := hw.1; omega) (by have := hw.2.1; omega) (by have := hw.1; have := hw.2; omega) (fun S9 e9 s9 => ?_) (fun S9 e9 s9 => ?_) (fun S9 e9 s9 => ?_) (fun S9 e9 s9 => ?_))
    · rw [eo] at s9 ⊢
      exact xa_iret eL_promise_9 rfl ⟨_, rfl, h1 c.1 c.2 S9 (hB.nw (by unfold addT; funext f; rw [if_neg (by omega), if_neg (by omega)]) s9)⟩
    · rw [eo] at e9; exact absurd e9 (show ¬ ((0 : Nat) = 1) by decide)
    · rw [eo] at e9; exact absurd e9 (show ¬ ((0 : Nat) = 2) by decide)
    · rw [eo] at e9; exact absurd e9 (show ¬ ((0 : Nat) = 3) by decide)
  · have eo : o_promise ((o : Int)) p b d 4 N S = (3, 0, 4, N, S) := by
      unfold o_promise
      rw [if_pos ⟨by omega, by omega⟩, if_pos hw]
      by_cases c2 : N < 20
      · rw [if_pos c2, if_neg (by rw [hB.acc hN]; exact fun z => c ⟨c2, z⟩)]
      · rw [if_neg c2]
    refine K.ofH rfl rfl rfl rfl (Nat.le_of_ble_eq_true rfl) rfl ?_
    refine xs_aload_0 eL_promise_0 ?_
    refine xs_iload_1 eL_promise_1 ?_
    refine xs_iload_2 eL_promise_2 ?_
    refine xs_iload_3 eL_promise_3 ?_
    refine xs_iload_4 eL_promise_4 ?_
    refine xbi_V4 (mi' := mX7_promise) (y := yX7_promise) eL_promise_6 (xw_5 lRL_71 wy_X7_promise) rfl ⟨wd_X7_promise, by decide, by decide⟩ (by decide) (fun _ => rfl) rfl (Nat.le_of_ble_eq_true rfl) rfl ⟨by decide, by decide⟩ (F_promise hS hT (by omega) (by have := hw.1; omega) (by have := hw.2.1; omega) (by have := hw.1; have := hw.2; omega) (fun S9 e9 s9 => ?_) (fun S9 e9 s9 => ?_) (fun S9 e9 s9 => ?_) (fun S9 e9 s9 => ?_))
    · rw [eo] at e9; exact absurd e9 (Nat.succ_ne_zero _)
    · rw [eo] at e9; exact absurd e9 (show ¬ ((3 : Nat) = 1) by decide)
    · rw [eo] at e9; exact absurd e9 (show ¬ ((3 : Nat) = 2) by decide)
    · refine xt_c2 rfl (by decide) lc56 (List.mem_of_getElem? (i := 1) rfl) (by decide) lc49 (List.mem_of_getElem? (i := 2) rfl) rfl (by decide) lc51 (List.mem_of_getElem? (i := 2) rfl) (fun q9 => ?_)
      refine xs_astoree_5 eL_promise_20 rfl ?_
      refine xa_bipush eL_promise_22 (by decide) ?_
      exact xa_iret eL_promise_24 rfl ⟨_, rfl, h3 c S9 (hB.sc s9)⟩
set_option maxHeartbeats 400000 in
theorem w_ask {w : xW} {S C : xS} {B : String → xS → Prop} {A : Int → xS → Prop} {N : Nat} {T q : Int} (hB : BS q C S) (hV : VS 0 4 N T C) (hT : T ≤ 800000) {j : Nat} {a : Int} (hj : j < N) (ha : -1 ≤ a ∧ a ≤ 99999) (h1 : C 10 j 0 = 0 → ∀ S', BS q (up S 10 j 9 a) S' → A (C 10 j 9) S') (h3 : ¬ C 10 j 0 = 0 → ∀ S', BS q C S' → A (-103) S') : Ki w mL_ask yL_ask 1 6 [xp 0 0, xi (j : Int), xi a] S A B := by
  have hS := hB.V hV
  have hN := hV.2.1
  by_cases c : C 10 j 0 = 0
  · have eo : o_ask ((j : Int)) a 4 N S = (0, C 10 j 9, 4, N, up S 10 j 9 a) := by
      unfold o_ask
      rw [if_pos ⟨by omega, by omega⟩, if_pos ha, Int.toNat_natCast, e32, hB.at (x := 10) (y := j) (by decide) (by decide) (by unfold sct; omega), if_pos c]
    refine K.ofH rfl rfl rfl rfl (Nat.le_of_ble_eq_true rfl) rfl ?_
    refine xs_aload_0 eL_ask_0 ?_
    refine xs_iload_1 eL_ask_1 ?_
    refine xs_iload_2 eL_ask_2 ?_
    refine xbi_V2 (mi' := mX7_ask) (y := yX7_ask) eL_ask_3 (xw_5 lRL_101 wy_X7_ask) rfl ⟨wd_X7_ask, by decide, by decide⟩ (by decide) (fun _ => rfl) rfl (Nat.le_of_ble_eq_true rfl) rfl ⟨by decide, by decide⟩ (F_ask hS hT (by omega) (by omega) (fun S9 e9 s9 => ?_) (fun S9 e9 s9 => ?_) (fun S9 e9 s9 => ?_) (fun S9 e9 s9 => ?_))
    · rw [eo] at s9 ⊢
      exact xa_iret eL_ask_6 rfl ⟨_, rfl, h1 c S9 (hB.nw (up_oth (by omega)) s9)⟩
    · rw [eo] at e9; exact absurd e9 (show ¬ ((0 : Nat) = 1) by decide)
    · rw [eo] at e9; exact absurd e9 (show ¬ ((0 : Nat) = 2) by decide)
    · rw [eo] at e9; exact absurd e9 (show ¬ ((0 : Nat) = 3) by decide)
  · have eo : o_ask ((j : Int)) a 4 N S = (3, 0, 4, N, S) := by
      unfold o_ask
      rw [if_pos ⟨by omega, by omega⟩, if_pos ha, Int.toNat_natCast, e32, hB.at (x := 10) (y := j) (by decide) (by decide) (by unfold sct; omega), if_neg c]
    refine K.ofH rfl rfl rfl rfl (Nat.le_of_ble_eq_true rfl) rfl ?_
    refine xs_aload_0 eL_ask_0 ?_
    refine xs_iload_1 eL_ask_1 ?_
    refine xs_iload_2 eL_ask_2 ?_
    refine xbi_V2 (mi' := mX7_ask) (y := yX7_ask) eL_ask_3 (xw_5 lRL_101 wy_X7_ask) rfl ⟨wd_X7_ask, by decide, by decide⟩ (by decide) (fun _ => rfl) rfl (Nat.le_of_ble_eq_true rfl) rfl ⟨by decide, by decide⟩ (F_ask hS hT (by omega) (by omega) (fun S9 e9 s9 => ?_) (fun S9 e9 s9 => ?_) (fun S9 e9 s9 => ?_) (fun S9 e9 s9 => ?_))
    · rw [eo] at e9; exact absurd e9 (Nat.succ_ne_zero _)
    · rw [eo] at e9; exact absurd e9 (show ¬ ((3 : Nat) = 1) by decide)
    · rw [eo] at e9; exact absurd e9 (show ¬ ((3 : Nat) = 2) by decide)
    · refine xt_c2 rfl (by decide) lc56 (List.mem_of_getElem? (i := 1) rfl) (by decide) lc49 (List.mem_of_getElem? (i := 2) rfl) rfl (by decide) lc51 (List.mem_of_getElem? (i := 2) rfl) (fun q9 => ?_)
      refine xs_astoree_3 eL_ask_15 rfl ?_
      refine xa_bipush eL_ask_16 (by decide) ?_
      exact xa_iret eL_ask_18 rfl ⟨_, rfl, h3 c S9 (hB.sc s9)⟩
set_option maxHeartbeats 400000 in
theorem w_buy {w : xW} {S C : xS} {B : String → xS → Prop} {A : Int → xS → Prop} {N : Nat} {T q : Int} (hB : BS q C S) (hV : VS 0 4 N T C) (hT : T ≤ 800000) {j r : Nat} (hj : j < N) (hr : r < 4) (h1 : canP j r C → ∀ S', BS q (selS 0 j r (S 10 j 1).toNat S) S' → A (C 10 j 1) S') (h3 : ¬ canP j r C → ∀ S', BS q C S' → A (-103) S') : Ki w mL_buy yL_buy 1 6 [xp 0 0, xi (j : Int), xi (r : Int)] S A B := by
  have hS := hB.V hV
  have hN := hV.2.1
  by_cases c : canP j r C
  · have eo : o_buy ((j : Int)) ((r : Int)) 4 N S = (0, C 10 j 1, 4, N, selS 0 j r (S 10 j 1).toNat S) := by
      have e1 := hB.at (x := 10) (y := j) (by decide) (by decide) (by unfold sct; omega)
      have e2 := hB.at (x := 4) (y := r) (by decide) (by decide) (by unfold sct; omega)
      have c2 : canP j r S := by unfold canP at c ⊢; rw [e32, e08] at c ⊢; rw [e1, e2]; exact c
      unfold o_buy
      rw [if_pos ⟨by omega, by omega⟩, if_pos ⟨by omega, by omega⟩, Int.toNat_natCast, Int.toNat_natCast, if_pos c2, e32, e1]
    refine K.ofH rfl rfl rfl rfl (Nat.le_of_ble_eq_true rfl) rfl ?_
    refine xs_aload_0 eL_buy_0 ?_
    refine xs_iload_1 eL_buy_1 ?_
    refine xs_iload_2 eL_buy_2 ?_
    refine xbi_V2 (mi' := mX7_buy) (y := yX7_buy) eL_buy_3 (xw_5 lRL_104 wy_X7_buy) rfl ⟨wd_X7_buy, by decide, by decide⟩ (by decide) (fun _ => rfl) rfl (Nat.le_of_ble_eq_true rfl) rfl ⟨by decide, by decide⟩ (F_buy hS hT (by omega) (by omega) (fun S9 e9 s9 => ?_) (fun S9 e9 s9 => ?_) (fun S9 e9 s9 => ?_))
    · rw [eo] at s9 ⊢
      exact xa_iret eL_buy_6 rfl ⟨_, rfl, h1 c S9 (hB.nw (by unfold selS; repeat rw [up_oth (by omega)]) s9)⟩
    · rw [eo] at e9; exact absurd e9 (show ¬ ((0 : Nat) = 1) by decide)
    · rw [eo] at e9; exact absurd e9 (show ¬ ((0 : Nat) = 2) by decide)
  · have eo : o_buy ((j : Int)) ((r : Int)) 4 N S = (2, 0, 4, N, S) := by
      have e1 := hB.at (x := 10) (y := j) (by decide) (by decide) (by unfold sct; omega)
      have e2 := hB.at (x := 4) (y := r) (by decide) (by decide) (by unfold sct; omega)
      have c2 : ¬ canP j r S := by unfold canP at c ⊢; rw [e32, e08] at c ⊢; rw [e1, e2]; exact c
      unfold o_buy
      rw [if_pos ⟨by omega, by omega⟩, if_pos ⟨by omega, by omega⟩, Int.toNat_natCast, Int.toNat_natCast, if_neg c2]
    refine K.ofH rfl rfl rfl rfl (Nat.le_of_ble_eq_true rfl) rfl ?_
    refine xs_aload_0 eL_buy_0 ?_
    refine xs_iload_1 eL_buy_1 ?_
    refine xs_iload_2 eL_buy_2 ?_
    refine xbi_V2 (mi' := mX7_buy) (y := yX7_buy) eL_buy_3 (xw_5 lRL_104 wy_X7_buy) rfl ⟨wd_X7_buy, by decide, by decide⟩ (by decide) (fun _ => rfl) rfl (Nat.le_of_ble_eq_true rfl) rfl ⟨by decide, by decide⟩ (F_buy hS hT (by omega) (by omega) (fun S9 e9 s9 => ?_) (fun S9 e9 s9 => ?_) (fun S9 e9 s9 => ?_))
    · rw [eo] at e9; exact absurd e9 (Nat.succ_ne_zero _)
    · rw [eo] at e9; exact absurd e9 (show ¬ ((2 : Nat) = 1) by decide)
    · refine xt_c1 rfl (by decide) lc56 (List.mem_of_getElem? (i := 1) rfl) rfl (by decide) lc51 (List.mem_of_getElem? (i := 2) rfl) (fun q9 => ?_)
      refine xs_astoree_3 eL_buy_11 rfl ?_
      refine xa_bipush eL_buy_12 (by decide) ?_
      exact xa_iret eL_buy_14 rfl ⟨_, rfl, h3 c S9 (hB.sc s9)⟩
set_option maxHeartbeats 400000 in
theorem w_lease {w : xW} {S C : xS} {B : String → xS → Prop} {A : Int → xS → Prop} {N : Nat} {T q : Int} (hB : BS q C S) (hV : VS 0 4 N T C) (hT : T ≤ 800000) {j r : Nat} {k a : Int} (hj : j < N) (hr : r < 4) (hk : (1 ≤ k ∧ k ≤ 50) ∧ 0 ≤ a ∧ a ≤ 999) (h1 : leaP j r (k * a) C → ∀ S', BS q (leaS j r (S 10 j 1).toNat k (k * a) S) S' → A (k * a) S') (h3 : ¬ leaP j r (k * a) C → ∀ S', BS q C S' → A (-103) S') : Ki w mL_lease yL_lease 1 6 [xp 0 0, xi (j : Int), xi (r : Int), xi k, xi a] S A B := by
  have hS := hB.V hV
  have hN := hV.2.1
  by_cases c : leaP j r (k * a) C
  · have eo : o_lease ((j : Int)) ((r : Int)) k a 4 N S = (0, k * a, 4, N, leaS j r (S 10 j 1).toNat k (k * a) S) := by
      have e1 := hB.at (x := 10) (y := j) (by decide) (by decide) (by unfold sct; omega)
      have e2 := hB.at (x := 4) (y := r) (by decide) (by decide) (by unfold sct; omega)
      have c2 : leaP j r (k * a) S := by unfold leaP at c ⊢; rw [e32, e08] at c ⊢; rw [e1, e2]; exact c
      unfold o_lease
      rw [if_pos ⟨by omega, by omega⟩, if_pos ⟨by omega, by omega⟩, if_pos hk, Int.toNat_natCast, Int.toNat_natCast, if_pos c2, e32]
    refine K.ofH rfl rfl rfl rfl (Nat.le_of_ble_eq_true rfl) rfl ?_
    refine xs_aload_0 eL_lease_0 ?_
    refine xs_iload_1 eL_lease_1 ?_
    refine xs_iload_2 eL_lease_2 ?_
    refine xs_iload_3 eL_lease_3 ?_
    refine xs_iload_4 eL_lease_4 ?_
    refine xbi_V4 (mi' := mX7_lease) (y := yX7_lease) eL_lease_6 (xw_5 lRL_110 wy_X7_lease) rfl ⟨wd_X7_lease, by decide, by decide⟩ (by decide) (fun _ => rfl) rfl (Nat.le_of_ble_eq_true rfl) rfl ⟨by decide, by decide⟩ (F_lease hS hT (by omega) (by omega) (by omega) (by omega) (fun S9 e9 s9 => ?_) (fun S9 e9 s9 => ?_) (fun S9 e9 s9 => ?_) (fun S9 e9 s9 => ?_))
    · rw [eo] at s9 ⊢
      exact xa_iret eL_lease_9 rfl ⟨_, rfl, h1 c S9 (hB.nw (by unfold leaS; repeat rw [up_oth (by omega)]) s9)⟩
    · rw [eo] at e9; exact absurd e9 (show ¬ ((0 : Nat) = 1) by decide)
    · rw [eo] at e9; exact absurd e9 (show ¬ ((0 : Nat) = 2) by decide)
    · rw [eo] at e9; exact absurd e9 (show ¬ ((0 : Nat) = 3) by decide)
  · have eo : o_lease ((j : Int)) ((r : Int)) k a 4 N S = (3, 0, 4, N, S) := by
      have e1 := hB.at (x := 10) (y := j) (by decide) (by decide) (by unfold sct; omega)
      have e2 := hB.at (x := 4) (y := r) (by decide) (by decide) (by unfold sct; omega)
      have c2 : ¬ leaP j r (k * a) S := by unfold leaP at c ⊢; rw [e32, e08] at c ⊢; rw [e1, e2]; exact c
      unfold o_lease
      rw [if_pos ⟨by omega, by omega⟩, if_pos ⟨by omega, by omega⟩, if_pos hk, Int.toNat_natCast, Int.toNat_natCast, if_neg c2]
    refine K.ofH rfl rfl rfl rfl (Nat.le_of_ble_eq_true rfl) rfl ?_
    refine xs_aload_0 eL_lease_0 ?_
    refine xs_iload_1 eL_lease_1 ?_
    refine xs_iload_2 eL_lease_2 ?_
    refine xs_iload_3 eL_lease_3 ?_
    refine xs_iload_4 eL_lease_4 ?_
    refine xbi_V4 (mi' := mX7_lease) (y := yX7_lease) eL_lease_6 (xw_5 lRL_110 wy_X7_lease) rfl ⟨wd_X7_lease, by decide, by decide⟩ (by decide) (fun _ => rfl) rfl (Nat.le_of_ble_eq_true rfl) rfl ⟨by decide, by decide⟩ (F_lease hS hT (by omega) (by omega) (by omega) (by omega) (fun S9 e9 s9 => ?_) (fun S9 e9 s9 => ?_) (fun S9 e9 s9 => ?_) (fun S9 e9 s9 => ?_))
    · rw [eo] at e9; exact absurd e9 (Nat.succ_ne_zero _)
    · rw [eo] at e9; exact absurd e9 (show ¬ ((3 : Nat) = 1) by decide)
    · rw [eo] at e9; exact absurd e9 (show ¬ ((3 : Nat) = 2) by decide)
    · refine xt_c2 rfl (by decide) lc56 (List.mem_of_getElem? (i := 1) rfl) (by decide) lc49 (List.mem_of_getElem? (i := 2) rfl) rfl (by decide) lc51 (List.mem_of_getElem? (i := 2) rfl) (fun q9 => ?_)
      refine xs_astoree_5 eL_lease_20 rfl ?_
      refine xa_bipush eL_lease_22 (by decide) ?_
      exact xa_iret eL_lease_24 rfl ⟨_, rfl, h3 c S9 (hB.sc s9)⟩
set_option maxHeartbeats 400000 in
theorem w_split {w : xW} {S C : xS} {B : String → xS → Prop} {A : Int → xS → Prop} {N : Nat} {T q : Int} (hB : BS q C S) (hV : VS 0 4 N T C) (hT : T ≤ 800000) {j : Nat} {a : Int} (hj : j < N) (ya : xr a) (h1 : 1 ≤ a ∧ a ≤ C 10 j 3 - 1 → C 10 j 0 = 0 ∧ N < 20 → ∀ S', BS q (divS 0 N j a S) S' → A (N : Int) S') (h2 : ¬ (1 ≤ a ∧ a ≤ C 10 j 3 - 1) → ∀ S', BS q C S' → A (-102) S') (h3 : 1 ≤ a ∧ a ≤ C 10 j 3 - 1 → ¬ (C 10 j 0 = 0 ∧ N < 20) → ∀ S', BS q C S' → A (-103) S') : Ki w mL_split yL_split 1 6 [xp 0 0, xi (j : Int), xi a] S A B := by
  have hS := hB.V hV
  have hN := hV.2.1
  by_cases c2 : ¬ (1 ≤ a ∧ a ≤ C 10 j 3 - 1)
  · have eo : o_split ((j : Int)) a 4 N S = (2, 0, 4, N, S) := by
      unfold o_split
      rw [if_pos ⟨by omega, by omega⟩, Int.toNat_natCast, e32, hB.at (x := 10) (y := j) (by decide) (by decide) (by unfold sct; omega), if_neg c2]
    refine K.ofH rfl rfl rfl rfl (Nat.le_of_ble_eq_true rfl) rfl ?_
    refine xs_aload_0 eL_split_0 ?_
    refine xs_iload_1 eL_split_1 ?_
    refine xs_iload_2 eL_split_2 ?_
    refine xbi_V2 (mi' := mX7_split) (y := yX7_split) eL_split_3 (xw_5 lRL_89 wy_X7_split) rfl ⟨wd_X7_split, by decide, by decide⟩ (by decide) (fun _ => rfl) rfl (Nat.le_of_ble_eq_true rfl) rfl ⟨by decide, by decide⟩ (F_split hS hT (by omega) ya (fun S9 e9 s9 => ?_) (fun S9 e9 s9 => ?_) (fun S9 e9 s9 => ?_) (fun S9 e9 s9 => ?_))
    · rw [eo] at e9; exact absurd e9 (Nat.succ_ne_zero _)
    · rw [eo] at e9; exact absurd e9 (show ¬ ((2 : Nat) = 1) by decide)
    · refine xt_c1 rfl (by decide) lc56 (List.mem_of_getElem? (i := 0) rfl) rfl (by decide) lc49 (List.mem_of_getElem? (i := 1) rfl) (fun q9 => ?_)
      refine xs_astoree_3 eL_split_11 rfl ?_
      refine xa_bipush eL_split_12 (by decide) ?_
      exact xa_iret eL_split_14 rfl ⟨_, rfl, h2 c2 S9 (hB.sc s9)⟩
    · rw [eo] at e9; exact absurd e9 (show ¬ ((2 : Nat) = 3) by decide)
  · by_cases c : C 10 j 0 = 0 ∧ N < 20
    · have eo : o_split ((j : Int)) a 4 N S = (0, (N : Int), 4, N + 1, divS 0 N j a S) := by
        have c3 : 1 ≤ a ∧ a ≤ C 10 j 3 - 1 := Classical.not_not.mp c2
        unfold o_split
        rw [if_pos ⟨by omega, by omega⟩, Int.toNat_natCast, e32, hB.at (x := 10) (y := j) (by decide) (by decide) (by unfold sct; omega), if_pos c3, if_pos c]
      refine K.ofH rfl rfl rfl rfl (Nat.le_of_ble_eq_true rfl) rfl ?_
      refine xs_aload_0 eL_split_0 ?_
      refine xs_iload_1 eL_split_1 ?_
      refine xs_iload_2 eL_split_2 ?_
      refine xbi_V2 (mi' := mX7_split) (y := yX7_split) eL_split_3 (xw_5 lRL_89 wy_X7_split) rfl ⟨wd_X7_split, by decide, by decide⟩ (by decide) (fun _ => rfl) rfl (Nat.le_of_ble_eq_true rfl) rfl ⟨by decide, by decide⟩ (F_split hS hT (by omega) ya (fun S9 e9 s9 => ?_) (fun S9 e9 s9 => ?_) (fun S9 e9 s9 => ?_) (fun S9 e9 s9 => ?_))
      · rw [eo] at s9 ⊢
        exact xa_iret eL_split_6 rfl ⟨_, rfl, h1 (Classical.not_not.mp c2) c S9 (hB.nw (by unfold divS; funext f; rw [if_neg (by omega), if_neg (by omega), if_neg (by omega)]) s9)⟩
      · rw [eo] at e9; exact absurd e9 (show ¬ ((0 : Nat) = 1) by decide)
      · rw [eo] at e9; exact absurd e9 (show ¬ ((0 : Nat) = 2) by decide)
      · rw [eo] at e9; exact absurd e9 (show ¬ ((0 : Nat) = 3) by decide)
    · have eo : o_split ((j : Int)) a 4 N S = (3, 0, 4, N, S) := by
        have c3 : 1 ≤ a ∧ a ≤ C 10 j 3 - 1 := Classical.not_not.mp c2
        unfold o_split
        rw [if_pos ⟨by omega, by omega⟩, Int.toNat_natCast, e32, hB.at (x := 10) (y := j) (by decide) (by decide) (by unfold sct; omega), if_pos c3, if_neg c]
      refine K.ofH rfl rfl rfl rfl (Nat.le_of_ble_eq_true rfl) rfl ?_
      refine xs_aload_0 eL_split_0 ?_
      refine xs_iload_1 eL_split_1 ?_
      refine xs_iload_2 eL_split_2 ?_
      refine xbi_V2 (mi' := mX7_split) (y := yX7_split) eL_split_3 (xw_5 lRL_89 wy_X7_split) rfl ⟨wd_X7_split, by decide, by decide⟩ (by decide) (fun _ => rfl) rfl (Nat.le_of_ble_eq_true rfl) rfl ⟨by decide, by decide⟩ (F_split hS hT (by omega) ya (fun S9 e9 s9 => ?_) (fun S9 e9 s9 => ?_) (fun S9 e9 s9 => ?_) (fun S9 e9 s9 => ?_))
      · rw [eo] at e9; exact absurd e9 (Nat.succ_ne_zero _)
      · rw [eo] at e9; exact absurd e9 (show ¬ ((3 : Nat) = 1) by decide)
      · rw [eo] at e9; exact absurd e9 (show ¬ ((3 : Nat) = 2) by decide)
      · refine xt_c2 rfl (by decide) lc56 (List.mem_of_getElem? (i := 1) rfl) (by decide) lc49 (List.mem_of_getElem? (i := 2) rfl) rfl (by decide) lc51 (List.mem_of_getElem? (i := 2) rfl) (fun q9 => ?_)
        refine xs_astoree_3 eL_split_15 rfl ?_
        refine xa_bipush eL_split_16 (by decide) ?_
        exact xa_iret eL_split_18 rfl ⟨_, rfl, h3 (Classical.not_not.mp c2) c S9 (hB.sc s9)⟩
set_option maxHeartbeats 400000 in
theorem w_end {w : xW} {S C : xS} {B : String → xS → Prop} {A : Int → xS → Prop} {N : Nat} {T q : Int} (hB : BS q C S) (hV : VS 0 4 N T C) (hT : T ≤ 800000) {j : Nat} (hj : j < N) (h1 : C 10 j 0 = 0 → ∀ S', BS q (rwS 10 j (xfin (S 10 j)) S) S' → A (C 10 j 6) S') (h3 : ¬ C 10 j 0 = 0 → ∀ S', BS q C S' → A (-103) S') : Ki w mL_end yL_end 1 6 [xp 0 0, xi (j : Int)] S A B := by
  have hS := hB.V hV
  have hN := hV.2.1
  by_cases c : C 10 j 0 = 0
  · have eo : o_end ((j : Int)) 4 N S = (0, C 10 j 6, 4, N, rwS 10 j (xfin (S 10 j)) S) := by
      have e1 := hB.at (x := 10) (y := j) (by decide) (by decide) (by unfold sct; omega)
      unfold o_end
      rw [if_pos ⟨by omega, by omega⟩, Int.toNat_natCast, e32, e1, if_pos c]
    refine K.ofH rfl rfl rfl rfl (Nat.le_of_ble_eq_true rfl) rfl ?_
    refine xs_aload_0 eL_end_0 ?_
    refine xs_iload_1 eL_end_1 ?_
    refine xbi_V1 (mi' := mX7_end) (y := yX7_end) eL_end_2 (xw_5 lRL_85 wy_X7_end) rfl ⟨wd_X7_end, by decide, by decide⟩ (by decide) (fun _ => rfl) rfl (Nat.le_of_ble_eq_true rfl) rfl ⟨by decide, by decide⟩ (F_end hS hT (by omega) (fun S9 e9 s9 => ?_) (fun S9 e9 s9 => ?_) (fun S9 e9 s9 => ?_))
    · rw [eo] at s9 ⊢
      exact xa_iret eL_end_5 rfl ⟨_, rfl, h1 c S9 (hB.nw (by unfold rwS; funext f; rw [if_neg (by omega)]) s9)⟩
    · rw [eo] at e9; exact absurd e9 (show ¬ ((0 : Nat) = 1) by decide)
    · rw [eo] at e9; exact absurd e9 (show ¬ ((0 : Nat) = 2) by decide)
  · have eo : o_end ((j : Int)) 4 N S = (2, 0, 4, N, S) := by
      have e1 := hB.at (x := 10) (y := j) (by decide) (by decide) (by unfold sct; omega)
      unfold o_end
      rw [if_pos ⟨by omega, by omega⟩, Int.toNat_natCast, e32, e1, if_neg c]
    refine K.ofH rfl rfl rfl rfl (Nat.le_of_ble_eq_true rfl) rfl ?_
    refine xs_aload_0 eL_end_0 ?_
    refine xs_iload_1 eL_end_1 ?_
    refine xbi_V1 (mi' := mX7_end) (y := yX7_end) eL_end_2 (xw_5 lRL_85 wy_X7_end) rfl ⟨wd_X7_end, by decide, by decide⟩ (by decide) (fun _ => rfl) rfl (Nat.le_of_ble_eq_true rfl) rfl ⟨by decide, by decide⟩ (F_end hS hT (by omega) (fun S9 e9 s9 => ?_) (fun S9 e9 s9 => ?_) (fun S9 e9 s9 => ?_))
    · rw [eo] at e9; exact absurd e9 (Nat.succ_ne_zero _)
    · rw [eo] at e9; exact absurd e9 (show ¬ ((2 : Nat) = 1) by decide)
    · refine xt_c1 rfl (by decide) lc56 (List.mem_of_getElem? (i := 1) rfl) rfl (by decide) lc51 (List.mem_of_getElem? (i := 2) rfl) (fun q9 => ?_)
      refine xs_astoree_2 eL_end_10 rfl ?_
      refine xa_bipush eL_end_11 (by decide) ?_
      exact xa_iret eL_end_13 rfl ⟨_, rfl, h3 c S9 (hB.sc s9)⟩
set_option maxHeartbeats 400000 in
theorem w_toldX {w : xW} {S C : xS} {B : String → xS → Prop} {A : Int → xS → Prop} {N : Nat} {T q : Int} (hB : BS q C S) (hV : VS 0 4 N T C) (hT : T ≤ 800000) (hq : ∀ S', BS q C S' → A (-101) S') : Ki w mL_told yL_told 1 6 [xp 0 0, xi (-1), xi 0] S A B := by
  have hS := hB.V hV
  have hN := hV.2.1
  have eo : o_told (-1) 0 4 N S = (1, 0, 4, N, S) := by
    unfold o_told
    rw [if_neg (by omega)]
  refine K.ofH rfl rfl rfl rfl (Nat.le_of_ble_eq_true rfl) rfl ?_
  refine xs_aload_0 eL_told_0 ?_
  refine xs_iload_1 eL_told_1 ?_
  refine xs_iload_2 eL_told_2 ?_
  refine xbi_V2 (mi' := mX7_told) (y := yX7_told) eL_told_3 (xw_5 lRL_92 wy_X7_told) rfl ⟨wd_X7_told, by decide, by decide⟩ (by decide) (fun _ => rfl) rfl (Nat.le_of_ble_eq_true rfl) rfl ⟨by decide, by decide⟩ (F_told hS hT (by decide) (by decide) (fun S9 e9 s9 => ?_) (fun S9 e9 s9 => ?_) (fun S9 e9 s9 => ?_))
  · rw [eo] at e9; exact absurd e9 (Nat.succ_ne_zero _)
  · refine xt_c0 rfl rfl (by decide) lc56 (List.mem_of_getElem? (i := 0) rfl) (fun q9 => ?_)
    refine xs_astoree_3 eL_told_7 rfl ?_
    refine xa_bipush eL_told_8 (by decide) ?_
    exact xa_iret eL_told_10 rfl ⟨_, rfl, hq S9 (hB.sc s9)⟩
  · rw [eo] at e9; exact absurd e9 (show ¬ ((1 : Nat) = 2) by decide)
set_option maxHeartbeats 400000 in
theorem w_runX {w : xW} {S C : xS} {B : String → xS → Prop} {A : Int → xS → Prop} {N : Nat} {T q : Int} (hB : BS q C S) (hV : VS 0 4 N T C) (hT : T ≤ 800000) (hq : ∀ S', BS q C S' → A (-102) S') : Ki w mL_run yL_run 1 6 [xp 0 0, xi 501] S A B := by
  have hS := hB.V hV
  have hN := hV.2.1
  have eo : o_run 501 4 N S = (1, 0, 4, N, S) := by
    unfold o_run
    rw [if_neg (by omega)]
  refine K.ofH rfl rfl rfl rfl (Nat.le_of_ble_eq_true rfl) rfl ?_
  refine xs_aload_0 eL_run_0 ?_
  refine xs_iload_1 eL_run_1 ?_
  refine xbi_V1 (mi' := mX7_run) (y := yX7_run) eL_run_2 (xw_5 lRL_123 wy_X7_run) rfl ⟨wd_X7_run, by decide, by decide⟩ (by decide) (fun _ => rfl) rfl (Nat.le_of_ble_eq_true rfl) rfl ⟨by decide, by decide⟩ (F_run hS hT (by decide) (fun S9 e9 s9 => ?_) (fun S9 e9 s9 => ?_))
  · rw [eo] at e9; exact absurd e9 (Nat.succ_ne_zero _)
  · refine xt_c0 rfl rfl (by decide) lc49 (List.mem_of_getElem? (i := 1) rfl) (fun q9 => ?_)
    refine xs_astoree_2 eL_run_6 rfl ?_
    refine xa_bipush eL_run_7 (by decide) ?_
    exact xa_iret eL_run_9 rfl ⟨_, rfl, hq S9 (hB.sc s9)⟩
theorem wt_0 {w : xW} {S C : xS} {B : String → xS → Prop} {A : Int → xS → Prop} {N : Nat} {T q : Int} (hB : BS q C S) (hV : VS 0 4 N T C) (hT : T ≤ 800000) {j : Nat} (hj : j < N) (hq : A (C 10 j 0) S) : Ki w mL_told yL_told 0 0 [xp 0 0, xi (j : Int), xi 0] S A B := w_told hB hV hT hj (by decide) (by rw [show ((0 : Int)).toNat = 0 from rfl]; unfold xfg1; rw [if_neg (by omega)]; exact hq)
theorem wt_1 {w : xW} {S C : xS} {B : String → xS → Prop} {A : Int → xS → Prop} {N : Nat} {T q : Int} (hB : BS q C S) (hV : VS 0 4 N T C) (hT : T ≤ 800000) {j : Nat} (hj : j < N) (hq : A (C 10 j 1) S) : Ki w mL_told yL_told 0 0 [xp 0 0, xi (j : Int), xi 1] S A B := w_told hB hV hT hj (by decide) (by rw [show ((1 : Int)).toNat = 1 from rfl]; unfold xfg1; rw [if_neg (by omega)]; exact hq)
theorem wt_2 {w : xW} {S C : xS} {B : String → xS → Prop} {A : Int → xS → Prop} {N : Nat} {T q : Int} (hB : BS q C S) (hV : VS 0 4 N T C) (hT : T ≤ 800000) {j : Nat} (hj : j < N) (hq : A (C 10 j 2) S) : Ki w mL_told yL_told 0 0 [xp 0 0, xi (j : Int), xi 2] S A B := w_told hB hV hT hj (by decide) (by rw [show ((2 : Int)).toNat = 2 from rfl]; unfold xfg1; rw [if_neg (by omega)]; exact hq)
theorem wt_3 {w : xW} {S C : xS} {B : String → xS → Prop} {A : Int → xS → Prop} {N : Nat} {T q : Int} (hB : BS q C S) (hV : VS 0 4 N T C) (hT : T ≤ 800000) {j : Nat} (hj : j < N) (hq : A (C 10 j 3) S) : Ki w mL_told yL_told 0 0 [xp 0 0, xi (j : Int), xi 3] S A B := w_told hB hV hT hj (by decide) (by rw [show ((3 : Int)).toNat = 3 from rfl]; unfold xfg1; rw [if_neg (by omega)]; exact hq)
theorem wt_5 {w : xW} {S C : xS} {B : String → xS → Prop} {A : Int → xS → Prop} {N : Nat} {T q : Int} (hB : BS q C S) (hV : VS 0 4 N T C) (hT : T ≤ 800000) {j : Nat} (hj : j < N) (hq : A (C 10 j 5) S) : Ki w mL_told yL_told 0 0 [xp 0 0, xi (j : Int), xi 5] S A B := w_told hB hV hT hj (by decide) (by rw [show ((5 : Int)).toNat = 5 from rfl]; unfold xfg1; rw [if_neg (by omega)]; exact hq)
theorem wt_9 {w : xW} {S C : xS} {B : String → xS → Prop} {A : Int → xS → Prop} {N : Nat} {T q : Int} (hB : BS q C S) (hV : VS 0 4 N T C) (hT : T ≤ 800000) {j : Nat} (hj : j < N) (hq : A (C 10 j 9) S) : Ki w mL_told yL_told 0 0 [xp 0 0, xi (j : Int), xi 9] S A B := w_told hB hV hT hj (by decide) (by rw [show ((9 : Int)).toNat = 9 from rfl]; unfold xfg1; rw [if_neg (by omega)]; exact hq)
theorem wt_10 {w : xW} {S C : xS} {B : String → xS → Prop} {A : Int → xS → Prop} {N : Nat} {T q : Int} (hB : BS q C S) (hV : VS 0 4 N T C) (hT : T ≤ 800000) {j : Nat} (hj : j < N) (hq : A (C 10 j 10) S) : Ki w mL_told yL_told 0 0 [xp 0 0, xi (j : Int), xi 10] S A B := w_told hB hV hT hj (by decide) (by rw [show ((10 : Int)).toNat = 10 from rfl]; unfold xfg1; rw [if_neg (by omega)]; exact hq)
theorem wt_11 {w : xW} {S C : xS} {B : String → xS → Prop} {A : Int → xS → Prop} {N : Nat} {T q : Int} (hB : BS q C S) (hV : VS 0 4 N T C) (hT : T ≤ 800000) {j : Nat} (hj : j < N) (hq : A (C 10 j 11) S) : Ki w mL_told yL_told 0 0 [xp 0 0, xi (j : Int), xi 11] S A B := w_told hB hV hT hj (by decide) (by rw [show ((11 : Int)).toNat = 11 from rfl]; unfold xfg1; rw [if_neg (by omega)]; exact hq)
theorem wt_12 {w : xW} {S C : xS} {B : String → xS → Prop} {A : Int → xS → Prop} {N : Nat} {T q : Int} (hB : BS q C S) (hV : VS 0 4 N T C) (hT : T ≤ 800000) {j : Nat} (hj : j < N) (hq : A (C 10 j 12) S) : Ki w mL_told yL_told 0 0 [xp 0 0, xi (j : Int), xi 12] S A B := w_told hB hV hT hj (by decide) (by rw [show ((12 : Int)).toNat = 12 from rfl]; unfold xfg1; rw [if_neg (by omega)]; exact hq)
theorem wt_13 {w : xW} {S C : xS} {B : String → xS → Prop} {A : Int → xS → Prop} {N : Nat} {T q : Int} (hB : BS q C S) (hV : VS 0 4 N T C) (hT : T ≤ 800000) {j : Nat} (hj : j < N) (hq : A (C 10 j 13) S) : Ki w mL_told yL_told 0 0 [xp 0 0, xi (j : Int), xi 13] S A B := w_told hB hV hT hj (by decide) (by rw [show ((13 : Int)).toNat = 13 from rfl]; unfold xfg1; rw [if_neg (by omega)]; exact hq)
theorem wt_14 {w : xW} {S C : xS} {B : String → xS → Prop} {A : Int → xS → Prop} {N : Nat} {T q : Int} (hB : BS q C S) (hV : VS 0 4 N T C) (hT : T ≤ 800000) {j : Nat} (hj : j < N) (hq : A (C 10 j 14) S) : Ki w mL_told yL_told 0 0 [xp 0 0, xi (j : Int), xi 14] S A B := w_told hB hV hT hj (by decide) (by rw [show ((14 : Int)).toNat = 14 from rfl]; unfold xfg1; rw [if_neg (by omega)]; exact hq)
theorem wt_15 {w : xW} {S C : xS} {B : String → xS → Prop} {A : Int → xS → Prop} {N : Nat} {T q : Int} (hB : BS q C S) (hV : VS 0 4 N T C) (hT : T ≤ 800000) {j : Nat} (hj : j < N) (hq : A (C 10 j 15) S) : Ki w mL_told yL_told 0 0 [xp 0 0, xi (j : Int), xi 15] S A B := w_told hB hV hT hj (by decide) (by rw [show ((15 : Int)).toNat = 15 from rfl]; unfold xfg1; rw [if_neg (by omega)]; exact hq)
theorem wt_16 {w : xW} {S C : xS} {B : String → xS → Prop} {A : Int → xS → Prop} {N : Nat} {T q : Int} (hB : BS q C S) (hV : VS 0 4 N T C) (hT : T ≤ 800000) {j : Nat} (hj : j < N) (hq : A (C 10 j 16) S) : Ki w mL_told yL_told 0 0 [xp 0 0, xi (j : Int), xi 16] S A B := w_told hB hV hT hj (by decide) (by rw [show ((16 : Int)).toNat = 16 from rfl]; unfold xfg1; rw [if_neg (by omega)]; exact hq)
theorem wt_6 {w : xW} {S C : xS} {B : String → xS → Prop} {A : Int → xS → Prop} {N : Nat} {T q : Int} (hB : BS q C S) (hV : VS 0 4 N T C) (hT : T ≤ 800000) {j : Nat} (hj : j < N) (hq : A (if C 2 0 2 < C 10 j 7 then C 10 j 6 else -1) S) : Ki w mL_told yL_told 0 0 [xp 0 0, xi (j : Int), xi 6] S A B := w_told hB hV hT hj (by decide) (by rw [show ((6 : Int)).toNat = 6 from rfl]; unfold xfg1; by_cases c : C 2 0 2 < C 10 j 7; rw [if_pos c] at hq; rw [if_neg (by omega)]; exact hq; rw [if_neg c] at hq; rw [if_pos ⟨by omega, c⟩]; exact hq)
theorem wt_7 {w : xW} {S C : xS} {B : String → xS → Prop} {A : Int → xS → Prop} {N : Nat} {T q : Int} (hB : BS q C S) (hV : VS 0 4 N T C) (hT : T ≤ 800000) {j : Nat} (hj : j < N) (hq : A (if C 2 0 2 < C 10 j 7 then C 10 j 7 else -1) S) : Ki w mL_told yL_told 0 0 [xp 0 0, xi (j : Int), xi 7] S A B := w_told hB hV hT hj (by decide) (by rw [show ((7 : Int)).toNat = 7 from rfl]; unfold xfg1; by_cases c : C 2 0 2 < C 10 j 7; rw [if_pos c] at hq; rw [if_neg (by omega)]; exact hq; rw [if_neg c] at hq; rw [if_pos ⟨by omega, c⟩]; exact hq)
theorem wt_8 {w : xW} {S C : xS} {B : String → xS → Prop} {A : Int → xS → Prop} {N : Nat} {T q : Int} (hB : BS q C S) (hV : VS 0 4 N T C) (hT : T ≤ 800000) {j : Nat} (hj : j < N) (hq : A (if C 2 0 2 < C 10 j 7 then C 10 j 8 else -1) S) : Ki w mL_told yL_told 0 0 [xp 0 0, xi (j : Int), xi 8] S A B := w_told hB hV hT hj (by decide) (by rw [show ((8 : Int)).toNat = 8 from rfl]; unfold xfg1; by_cases c : C 2 0 2 < C 10 j 7; rw [if_pos c] at hq; rw [if_neg (by omega)]; exact hq; rw [if_neg c] at hq; rw [if_pos ⟨by omega, c⟩]; exact hq)
theorem wp_0 {w : xW} {S C : xS} {B : String → xS → Prop} {A : Int → xS → Prop} {N : Nat} {T q : Int} (hB : BS q C S) (hV : VS 0 4 N T C) (hT : T ≤ 800000) {p : Nat} (hp : p < 4) (hq : A (C 4 p 0) S) : Ki w mL_process yL_process 0 0 [xp 0 0, xi (p : Int), xi 0] S A B := w_process hB hV hT hp (by decide) (by rw [if_neg (by decide)]; exact hq)
theorem wp_1 {w : xW} {S C : xS} {B : String → xS → Prop} {A : Int → xS → Prop} {N : Nat} {T q : Int} (hB : BS q C S) (hV : VS 0 4 N T C) (hT : T ≤ 800000) {p : Nat} (hp : p < 4) (hq : A (C 4 p 1) S) : Ki w mL_process yL_process 0 0 [xp 0 0, xi (p : Int), xi 1] S A B := w_process hB hV hT hp (by decide) (by rw [if_neg (by decide)]; exact hq)
theorem wp_3 {w : xW} {S C : xS} {B : String → xS → Prop} {A : Int → xS → Prop} {N : Nat} {T q : Int} (hB : BS q C S) (hV : VS 0 4 N T C) (hT : T ≤ 800000) {p : Nat} (hp : p < 4) (hq : A (C 4 p 3) S) : Ki w mL_process yL_process 0 0 [xp 0 0, xi (p : Int), xi 3] S A B := w_process hB hV hT hp (by decide) (by rw [if_neg (by decide)]; exact hq)
theorem wp_4 {w : xW} {S C : xS} {B : String → xS → Prop} {A : Int → xS → Prop} {N : Nat} {T q : Int} (hB : BS q C S) (hV : VS 0 4 N T C) (hT : T ≤ 800000) {p : Nat} (hp : p < 4) (hq : A (C 4 p 4) S) : Ki w mL_process yL_process 0 0 [xp 0 0, xi (p : Int), xi 4] S A B := w_process hB hV hT hp (by decide) (by rw [if_neg (by decide)]; exact hq)
theorem wp_5 {w : xW} {S C : xS} {B : String → xS → Prop} {A : Int → xS → Prop} {N : Nat} {T q : Int} (hB : BS q C S) (hV : VS 0 4 N T C) (hT : T ≤ 800000) {p : Nat} (hp : p < 4) (hq : A (C 4 p 5) S) : Ki w mL_process yL_process 0 0 [xp 0 0, xi (p : Int), xi 5] S A B := w_process hB hV hT hp (by decide) (by rw [if_neg (by decide)]; exact hq)
theorem wp_6 {w : xW} {S C : xS} {B : String → xS → Prop} {A : Int → xS → Prop} {N : Nat} {T q : Int} (hB : BS q C S) (hV : VS 0 4 N T C) (hT : T ≤ 800000) {p : Nat} (hp : p < 4) (hq : A (C 4 p 6) S) : Ki w mL_process yL_process 0 0 [xp 0 0, xi (p : Int), xi 6] S A B := w_process hB hV hT hp (by decide) (by rw [if_neg (by decide)]; exact hq)
theorem wp_7 {w : xW} {S C : xS} {B : String → xS → Prop} {A : Int → xS → Prop} {N : Nat} {T q : Int} (hB : BS q C S) (hV : VS 0 4 N T C) (hT : T ≤ 800000) {p : Nat} (hp : p < 4) (hq : A (C 4 p 7) S) : Ki w mL_process yL_process 0 0 [xp 0 0, xi (p : Int), xi 7] S A B := w_process hB hV hT hp (by decide) (by rw [if_neg (by decide)]; exact hq)
theorem wp_8 {w : xW} {S C : xS} {B : String → xS → Prop} {A : Int → xS → Prop} {N : Nat} {T q : Int} (hB : BS q C S) (hV : VS 0 4 N T C) (hT : T ≤ 800000) {p : Nat} (hp : p < 4) (hq : A (C 4 p 8) S) : Ki w mL_process yL_process 0 0 [xp 0 0, xi (p : Int), xi 8] S A B := w_process hB hV hT hp (by decide) (by rw [if_neg (by decide)]; exact hq)
theorem wp_9 {w : xW} {S C : xS} {B : String → xS → Prop} {A : Int → xS → Prop} {N : Nat} {T q : Int} (hB : BS q C S) (hV : VS 0 4 N T C) (hT : T ≤ 800000) {p : Nat} (hp : p < 4) (hq : A (C 4 p 9) S) : Ki w mL_process yL_process 0 0 [xp 0 0, xi (p : Int), xi 9] S A B := w_process hB hV hT hp (by decide) (by rw [if_neg (by decide)]; exact hq)
theorem wp_11 {w : xW} {S C : xS} {B : String → xS → Prop} {A : Int → xS → Prop} {N : Nat} {T q : Int} (hB : BS q C S) (hV : VS 0 4 N T C) (hT : T ≤ 800000) {p : Nat} (hp : p < 4) (hq : A (ownP p N C) S) : Ki w mL_process yL_process 0 0 [xp 0 0, xi (p : Int), xi 11] S A B := w_process hB hV hT hp (by decide) (by rw [if_pos rfl]; exact hq)
theorem wc_0 {w : xW} {S C : xS} {B : String → xS → Prop} {A : Int → xS → Prop} {N : Nat} {T q : Int} (hB : BS q C S) (hV : VS 0 4 N T C) (hT : T ≤ 800000) (hq : A (C 2 0 2) S) : Ki w mL_count yL_count 0 0 [xp 0 0, xi 0] S A B := w_count hB hV hT (by decide) (by have e9 : figS 0 N S ((0 : Int)).toNat = C 2 0 2 := (by show S 2 0 2 = _; rw [hB.at (by decide) (by decide) (by unfold sct; omega)]); rw [e9]; exact hq)
theorem wc_1 {w : xW} {S C : xS} {B : String → xS → Prop} {A : Int → xS → Prop} {N : Nat} {T q : Int} (hB : BS q C S) (hV : VS 0 4 N T C) (hT : T ≤ 800000) (hq : A (4) S) : Ki w mL_count yL_count 0 0 [xp 0 0, xi 1] S A B := w_count hB hV hT (by decide) (by have e9 : figS 0 N S ((1 : Int)).toNat = 4 := (by show S 1 0 3 = _; exact (hB.V hV).2.2.2.1.1); rw [e9]; exact hq)
theorem wc_2 {w : xW} {S C : xS} {B : String → xS → Prop} {A : Int → xS → Prop} {N : Nat} {T q : Int} (hB : BS q C S) (hV : VS 0 4 N T C) (hT : T ≤ 800000) (hq : A ((N : Int)) S) : Ki w mL_count yL_count 0 0 [xp 0 0, xi 2] S A B := w_count hB hV hT (by decide) (by have e9 : figS 0 N S ((2 : Int)).toNat = (N : Int) := (by show S 2 0 1 = _; exact (hB.V hV).1.1); rw [e9]; exact hq)
theorem wc_3 {w : xW} {S C : xS} {B : String → xS → Prop} {A : Int → xS → Prop} {N : Nat} {T q : Int} (hB : BS q C S) (hV : VS 0 4 N T C) (hT : T ≤ 800000) (hq : A (livP N C) S) : Ki w mL_count yL_count 0 0 [xp 0 0, xi 3] S A B := w_count hB hV hT (by decide) (by have e9 : figS 0 N S ((3 : Int)).toNat = livP N C := (by show livS 0 N S = _; exact hB.liv hV.2.1); rw [e9]; exact hq)
theorem wc_6 {w : xW} {S C : xS} {B : String → xS → Prop} {A : Int → xS → Prop} {N : Nat} {T q : Int} (hB : BS q C S) (hV : VS 0 4 N T C) (hT : T ≤ 800000) (hq : A (C 5 0 1) S) : Ki w mL_count yL_count 0 0 [xp 0 0, xi 6] S A B := w_count hB hV hT (by decide) (by have e9 : figS 0 N S ((6 : Int)).toNat = C 5 0 1 := (by show S 5 0 1 = _; rw [hB.at (by decide) (by decide) (by unfold sct; omega)]); rw [e9]; exact hq)
theorem wc_7 {w : xW} {S C : xS} {B : String → xS → Prop} {A : Int → xS → Prop} {N : Nat} {T q : Int} (hB : BS q C S) (hV : VS 0 4 N T C) (hT : T ≤ 800000) (hq : A (C 1 0 8) S) : Ki w mL_count yL_count 0 0 [xp 0 0, xi 7] S A B := w_count hB hV hT (by decide) (by have e9 : figS 0 N S ((7 : Int)).toNat = C 1 0 8 := (by show S 1 0 8 = _; rw [hB.at (by decide) (by decide) (by unfold sct; omega)]); rw [e9]; exact hq)
theorem wc_8 {w : xW} {S C : xS} {B : String → xS → Prop} {A : Int → xS → Prop} {N : Nat} {T q : Int} (hB : BS q C S) (hV : VS 0 4 N T C) (hT : T ≤ 800000) (hq : A (C 1 0 9) S) : Ki w mL_count yL_count 0 0 [xp 0 0, xi 8] S A B := w_count hB hV hT (by decide) (by have e9 : figS 0 N S ((8 : Int)).toNat = C 1 0 9 := (by show S 1 0 9 = _; rw [hB.at (by decide) (by decide) (by unfold sct; omega)]); rw [e9]; exact hq)
theorem wc_9 {w : xW} {S C : xS} {B : String → xS → Prop} {A : Int → xS → Prop} {N : Nat} {T q : Int} (hB : BS q C S) (hV : VS 0 4 N T C) (hT : T ≤ 800000) (hq : A (C 1 0 10) S) : Ki w mL_count yL_count 0 0 [xp 0 0, xi 9] S A B := w_count hB hV hT (by decide) (by have e9 : figS 0 N S ((9 : Int)).toNat = C 1 0 10 := (by show S 1 0 10 = _; rw [hB.at (by decide) (by decide) (by unfold sct; omega)]); rw [e9]; exact hq)
theorem wc_10 {w : xW} {S C : xS} {B : String → xS → Prop} {A : Int → xS → Prop} {N : Nat} {T q : Int} (hB : BS q C S) (hV : VS 0 4 N T C) (hT : T ≤ 800000) (hq : A (C 1 0 11) S) : Ki w mL_count yL_count 0 0 [xp 0 0, xi 10] S A B := w_count hB hV hT (by decide) (by have e9 : figS 0 N S ((10 : Int)).toNat = C 1 0 11 := (by show S 1 0 11 = _; rw [hB.at (by decide) (by decide) (by unfold sct; omega)]); rw [e9]; exact hq)
theorem wc_11 {w : xW} {S C : xS} {B : String → xS → Prop} {A : Int → xS → Prop} {N : Nat} {T q : Int} (hB : BS q C S) (hV : VS 0 4 N T C) (hT : T ≤ 800000) (hq : A (C 1 0 12) S) : Ki w mL_count yL_count 0 0 [xp 0 0, xi 11] S A B := w_count hB hV hT (by decide) (by have e9 : figS 0 N S ((11 : Int)).toNat = C 1 0 12 := (by show S 1 0 12 = _; rw [hB.at (by decide) (by decide) (by unfold sct; omega)]); rw [e9]; exact hq)
theorem wc_12 {w : xW} {S C : xS} {B : String → xS → Prop} {A : Int → xS → Prop} {N : Nat} {T q : Int} (hB : BS q C S) (hV : VS 0 4 N T C) (hT : T ≤ 800000) (hq : A (C 1 0 13) S) : Ki w mL_count yL_count 0 0 [xp 0 0, xi 12] S A B := w_count hB hV hT (by decide) (by have e9 : figS 0 N S ((12 : Int)).toNat = C 1 0 13 := (by show S 1 0 13 = _; rw [hB.at (by decide) (by decide) (by unfold sct; omega)]); rw [e9]; exact hq)
