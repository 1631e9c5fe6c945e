/-! the law: what it asks the class -/
theorem wr_64 (a : Int) : x64 (wr a) := by have := wr_r a; omega
theorem e_addProcess {a b c : Int} {n N : Nat} {C : xS} (h : (o_addProcess a b c n N C).1 ≠ 0) : (o_addProcess a b c n N C).2.2.2.2 = C ∧ (o_addProcess a b c n N C).2.2.1 = n ∧ (o_addProcess a b c n N C).2.2.2.1 = N := by
  revert h
  unfold o_addProcess
  repeat' split
  all_goals intro h
  all_goals first | exact ⟨rfl, rfl, rfl⟩ | exact absurd rfl h
theorem e_setBid {p b : Int} {n N : Nat} {C : xS} (h : (o_setBid p b n N C).1 ≠ 0) : (o_setBid p b n N C).2.2.2.2 = C ∧ (o_setBid p b n N C).2.2.1 = n ∧ (o_setBid p b n N C).2.2.2.1 = N := by
  revert h
  unfold o_setBid
  repeat' split
  all_goals intro h
  all_goals first | exact ⟨rfl, rfl, rfl⟩ | exact absurd rfl h
theorem e_setArrival {p e a : Int} {n N : Nat} {C : xS} (h : (o_setArrival p e a n N C).1 ≠ 0) : (o_setArrival p e a n N C).2.2.2.2 = C ∧ (o_setArrival p e a n N C).2.2.1 = n ∧ (o_setArrival p e a n N C).2.2.2.1 = N := by
  revert h
  unfold o_setArrival
  repeat' split
  all_goals intro h
  all_goals first | exact ⟨rfl, rfl, rfl⟩ | exact absurd rfl h
theorem e_addWork {p t : Int} {n N : Nat} {C : xS} (h : (o_addWork p t n N C).1 ≠ 0) : (o_addWork p t n N C).2.2.2.2 = C ∧ (o_addWork p t n N C).2.2.1 = n ∧ (o_addWork p t n N C).2.2.2.1 = N := by
  revert h
  unfold o_addWork
  repeat' split
  all_goals intro h
  all_goals first | exact ⟨rfl, rfl, rfl⟩ | exact absurd rfl h
theorem e_pay {p t : Int} {n N : Nat} {C : xS} (h : (o_pay p t n N C).1 ≠ 0) : (o_pay p t n N C).2.2.2.2 = C ∧ (o_pay p t n N C).2.2.1 = n ∧ (o_pay p t n N C).2.2.2.1 = N := by
  revert h
  unfold o_pay
  repeat' split
  all_goals intro h
  all_goals first | exact ⟨rfl, rfl, rfl⟩ | exact absurd rfl h
theorem e_process {p a : Int} {n N : Nat} {C : xS} (h : (o_process p a n N C).1 ≠ 0) : (o_process p a n N C).2.2.2.2 = C ∧ (o_process p a n N C).2.2.1 = n ∧ (o_process p a n N C).2.2.2.1 = N := by
  revert h
  unfold o_process
  repeat' split
  all_goals intro h
  all_goals first | exact ⟨rfl, rfl, rfl⟩ | exact absurd rfl h
theorem e_promise {q p b d : Int} {n N : Nat} {C : xS} (h : (o_promise q p b d n N C).1 ≠ 0) : (o_promise q p b d n N C).2.2.2.2 = C ∧ (o_promise q p b d n N C).2.2.1 = n ∧ (o_promise q p b d n N C).2.2.2.1 = N := by
  revert h
  unfold o_promise
  repeat' split
  all_goals intro h
  all_goals first | exact ⟨rfl, rfl, rfl⟩ | exact absurd rfl h
theorem e_canAccept {p b d : Int} {n N : Nat} {C : xS} (h : (o_canAccept p b d n N C).1 ≠ 0) : (o_canAccept p b d n N C).2.2.2.2 = C ∧ (o_canAccept p b d n N C).2.2.1 = n ∧ (o_canAccept p b d n N C).2.2.2.1 = N := by
  revert h
  unfold o_canAccept
  repeat' split
  all_goals intro h
  all_goals first | exact ⟨rfl, rfl, rfl⟩ | exact absurd rfl h
theorem e_greatestBudget {p d : Int} {n N : Nat} {C : xS} (h : (o_greatestBudget p d n N C).1 ≠ 0) : (o_greatestBudget p d n N C).2.2.2.2 = C ∧ (o_greatestBudget p d n N C).2.2.1 = n ∧ (o_greatestBudget p d n N C).2.2.2.1 = N := by
  revert h
  unfold o_greatestBudget
  repeat' split
  all_goals intro h
  all_goals first | exact ⟨rfl, rfl, rfl⟩ | exact absurd rfl h
theorem e_waitFor {p b d : Int} {n N : Nat} {C : xS} (h : (o_waitFor p b d n N C).1 ≠ 0) : (o_waitFor p b d n N C).2.2.2.2 = C ∧ (o_waitFor p b d n N C).2.2.1 = n ∧ (o_waitFor p b d n N C).2.2.2.1 = N := by
  revert h
  unfold o_waitFor
  repeat' split
  all_goals intro h
  all_goals first | exact ⟨rfl, rfl, rfl⟩ | exact absurd rfl h
theorem e_end {j : Int} {n N : Nat} {C : xS} (h : (o_end j n N C).1 ≠ 0) : (o_end j n N C).2.2.2.2 = C ∧ (o_end j n N C).2.2.1 = n ∧ (o_end j n N C).2.2.2.1 = N := by
  revert h
  unfold o_end
  repeat' split
  all_goals intro h
  all_goals first | exact ⟨rfl, rfl, rfl⟩ | exact absurd rfl h
theorem e_split {j a : Int} {n N : Nat} {C : xS} (h : (o_split j a n N C).1 ≠ 0) : (o_split j a n N C).2.2.2.2 = C ∧ (o_split j a n N C).2.2.1 = n ∧ (o_split j a n N C).2.2.2.1 = N := by
  revert h
  unfold o_split
  repeat' split
  all_goals intro h
  all_goals first | exact ⟨rfl, rfl, rfl⟩ | exact absurd rfl h
theorem e_told {j a : Int} {n N : Nat} {C : xS} (h : (o_told j a n N C).1 ≠ 0) : (o_told j a n N C).2.2.2.2 = C ∧ (o_told j a n N C).2.2.1 = n ∧ (o_told j a n N C).2.2.2.1 = N := by
  revert h
  unfold o_told
  repeat' split
  all_goals intro h
  all_goals first | exact ⟨rfl, rfl, rfl⟩ | exact absurd rfl h
theorem e_demand {a : Int} {n N : Nat} {C : xS} (h : (o_demand a n N C).1 ≠ 0) : (o_demand a n N C).2.2.2.2 = C ∧ (o_demand a n N C).2.2.1 = n ∧ (o_demand a n N C).2.2.2.1 = N := by
  revert h
  unfold o_demand
  repeat' split
  all_goals intro h
  all_goals first | exact ⟨rfl, rfl, rfl⟩ | exact absurd rfl h
theorem e_isBounded {p b d : Int} {n N : Nat} {C : xS} (h : (o_isBounded p b d n N C).1 ≠ 0) : (o_isBounded p b d n N C).2.2.2.2 = C ∧ (o_isBounded p b d n N C).2.2.1 = n ∧ (o_isBounded p b d n N C).2.2.2.1 = N := by
  revert h
  unfold o_isBounded
  repeat' split
  all_goals intro h
  all_goals first | exact ⟨rfl, rfl, rfl⟩ | exact absurd rfl h
theorem e_ask {j a : Int} {n N : Nat} {C : xS} (h : (o_ask j a n N C).1 ≠ 0) : (o_ask j a n N C).2.2.2.2 = C ∧ (o_ask j a n N C).2.2.1 = n ∧ (o_ask j a n N C).2.2.2.1 = N := by
  revert h
  unfold o_ask
  repeat' split
  all_goals intro h
  all_goals first | exact ⟨rfl, rfl, rfl⟩ | exact absurd rfl h
theorem e_buy {j q : Int} {n N : Nat} {C : xS} (h : (o_buy j q n N C).1 ≠ 0) : (o_buy j q n N C).2.2.2.2 = C ∧ (o_buy j q n N C).2.2.1 = n ∧ (o_buy j q n N C).2.2.2.1 = N := by
  revert h
  unfold o_buy
  repeat' split
  all_goals intro h
  all_goals first | exact ⟨rfl, rfl, rfl⟩ | exact absurd rfl h
theorem e_buyCheapest {q : Int} {n N : Nat} {C : xS} (h : (o_buyCheapest q n N C).1 ≠ 0) : (o_buyCheapest q n N C).2.2.2.2 = C ∧ (o_buyCheapest q n N C).2.2.1 = n ∧ (o_buyCheapest q n N C).2.2.2.1 = N := by
  revert h
  unfold o_buyCheapest
  repeat' split
  all_goals intro h
  all_goals first | exact ⟨rfl, rfl, rfl⟩ | exact absurd rfl h
theorem e_lease {j q k a : Int} {n N : Nat} {C : xS} (h : (o_lease j q k a n N C).1 ≠ 0) : (o_lease j q k a n N C).2.2.2.2 = C ∧ (o_lease j q k a n N C).2.2.1 = n ∧ (o_lease j q k a n N C).2.2.2.1 = N := by
  revert h
  unfold o_lease
  repeat' split
  all_goals intro h
  all_goals first | exact ⟨rfl, rfl, rfl⟩ | exact absurd rfl h
theorem e_sales {p q : Int} {n N : Nat} {C : xS} (h : (o_sales p q n N C).1 ≠ 0) : (o_sales p q n N C).2.2.2.2 = C ∧ (o_sales p q n N C).2.2.1 = n ∧ (o_sales p q n N C).2.2.2.1 = N := by
  revert h
  unfold o_sales
  repeat' split
  all_goals intro h
  all_goals first | exact ⟨rfl, rfl, rfl⟩ | exact absurd rfl h
theorem e_setRules {p f : Int} {n N : Nat} {C : xS} (h : (o_setRules p f n N C).1 ≠ 0) : (o_setRules p f n N C).2.2.2.2 = C ∧ (o_setRules p f n N C).2.2.1 = n ∧ (o_setRules p f n N C).2.2.2.1 = N := by
  revert h
  unfold o_setRules
  repeat' split
  all_goals intro h
  all_goals first | exact ⟨rfl, rfl, rfl⟩ | exact absurd rfl h
theorem e_count {a : Int} {n N : Nat} {C : xS} (h : (o_count a n N C).1 ≠ 0) : (o_count a n N C).2.2.2.2 = C ∧ (o_count a n N C).2.2.1 = n ∧ (o_count a n N C).2.2.2.1 = N := by
  revert h
  unfold o_count
  repeat' split
  all_goals intro h
  all_goals first | exact ⟨rfl, rfl, rfl⟩ | exact absurd rfl h
theorem e_run {m : Int} {n N : Nat} {C : xS} (h : (o_run m n N C).1 ≠ 0) : (o_run m n N C).2.2.2.2 = C ∧ (o_run m n N C).2.2.1 = n ∧ (o_run m n N C).2.2.2.1 = N := by
  revert h
  unfold o_run
  repeat' split
  all_goals intro h
  all_goals first | exact ⟨rfl, rfl, rfl⟩ | exact absurd rfl h
theorem e_ticksToFinish {q m : Int} {n N : Nat} {C : xS} (h : (o_ticksToFinish q m n N C).1 ≠ 0) : (o_ticksToFinish q m n N C).2.2.2.2 = C ∧ (o_ticksToFinish q m n N C).2.2.1 = n ∧ (o_ticksToFinish q m n N C).2.2.2.1 = N := by
  revert h
  unfold o_ticksToFinish
  repeat' split
  all_goals intro h
  all_goals first | exact ⟨rfl, rfl, rfl⟩ | exact absurd rfl h
theorem e_moneyAfter {q m : Int} {n N : Nat} {C : xS} (h : (o_moneyAfter q m n N C).1 ≠ 0) : (o_moneyAfter q m n N C).2.2.2.2 = C ∧ (o_moneyAfter q m n N C).2.2.1 = n ∧ (o_moneyAfter q m n N C).2.2.2.1 = N := by
  revert h
  unfold o_moneyAfter
  repeat' split
  all_goals intro h
  all_goals first | exact ⟨rfl, rfl, rfl⟩ | exact absurd rfl h
theorem e_bestBid {q m : Int} {n N : Nat} {C : xS} (h : (o_bestBid q m n N C).1 ≠ 0) : (o_bestBid q m n N C).2.2.2.2 = C ∧ (o_bestBid q m n N C).2.2.1 = n ∧ (o_bestBid q m n N C).2.2.2.1 = N := by
  revert h
  unfold o_bestBid
  repeat' split
  all_goals intro h
  all_goals first | exact ⟨rfl, rfl, rfl⟩ | exact absurd rfl h
theorem t_addProcess {a b c : Int} {n N : Nat} {C : xS} : (o_addProcess a b c n N C).1 ≤ 3 := by
  unfold o_addProcess
  repeat' split
  all_goals exact Nat.le_of_ble_eq_true rfl
theorem t_setBid {p b : Int} {n N : Nat} {C : xS} : (o_setBid p b n N C).1 ≤ 3 := by
  unfold o_setBid
  repeat' split
  all_goals exact Nat.le_of_ble_eq_true rfl
theorem t_setArrival {p e a : Int} {n N : Nat} {C : xS} : (o_setArrival p e a n N C).1 ≤ 3 := by
  unfold o_setArrival
  repeat' split
  all_goals exact Nat.le_of_ble_eq_true rfl
theorem t_addWork {p t : Int} {n N : Nat} {C : xS} : (o_addWork p t n N C).1 ≤ 3 := by
  unfold o_addWork
  repeat' split
  all_goals exact Nat.le_of_ble_eq_true rfl
theorem t_pay {p t : Int} {n N : Nat} {C : xS} : (o_pay p t n N C).1 ≤ 3 := by
  unfold o_pay
  repeat' split
  all_goals exact Nat.le_of_ble_eq_true rfl
theorem t_process {p a : Int} {n N : Nat} {C : xS} : (o_process p a n N C).1 ≤ 3 := by
  unfold o_process
  repeat' split
  all_goals exact Nat.le_of_ble_eq_true rfl
theorem t_promise {q p b d : Int} {n N : Nat} {C : xS} : (o_promise q p b d n N C).1 ≤ 3 := by
  unfold o_promise
  repeat' split
  all_goals exact Nat.le_of_ble_eq_true rfl
theorem t_canAccept {p b d : Int} {n N : Nat} {C : xS} : (o_canAccept p b d n N C).1 ≤ 3 := by
  unfold o_canAccept
  repeat' split
  all_goals exact Nat.le_of_ble_eq_true rfl
theorem t_greatestBudget {p d : Int} {n N : Nat} {C : xS} : (o_greatestBudget p d n N C).1 ≤ 3 := by
  unfold o_greatestBudget
  repeat' split
  all_goals exact Nat.le_of_ble_eq_true rfl
theorem t_waitFor {p b d : Int} {n N : Nat} {C : xS} : (o_waitFor p b d n N C).1 ≤ 3 := by
  unfold o_waitFor
  repeat' split
  all_goals exact Nat.le_of_ble_eq_true rfl
theorem t_end {j : Int} {n N : Nat} {C : xS} : (o_end j n N C).1 ≤ 3 := by
  unfold o_end
  repeat' split
  all_goals exact Nat.le_of_ble_eq_true rfl
theorem t_split {j a : Int} {n N : Nat} {C : xS} : (o_split j a n N C).1 ≤ 3 := by
  unfold o_split
  repeat' split
  all_goals exact Nat.le_of_ble_eq_true rfl
theorem t_told {j a : Int} {n N : Nat} {C : xS} : (o_told j a n N C).1 ≤ 3 := by
  unfold o_told
  repeat' split
  all_goals exact Nat.le_of_ble_eq_true rfl
theorem t_demand {a : Int} {n N : Nat} {C : xS} : (o_demand a n N C).1 ≤ 3 := by
  unfold o_demand
  repeat' split
  all_goals exact Nat.le_of_ble_eq_true rfl
theorem t_isBounded {p b d : Int} {n N : Nat} {C : xS} : (o_isBounded p b d n N C).1 ≤ 3 := by
  unfold o_isBounded
  repeat' split
  all_goals exact Nat.le_of_ble_eq_true rfl
theorem t_ask {j a : Int} {n N : Nat} {C : xS} : (o_ask j a n N C).1 ≤ 3 := by
  unfold o_ask
  repeat' split
  all_goals exact Nat.le_of_ble_eq_true rfl
theorem t_buy {j q : Int} {n N : Nat} {C : xS} : (o_buy j q n N C).1 ≤ 3 := by
  unfold o_buy
  repeat' split
  all_goals exact Nat.le_of_ble_eq_true rfl
theorem t_buyCheapest {q : Int} {n N : Nat} {C : xS} : (o_buyCheapest q n N C).1 ≤ 3 := by
  unfold o_buyCheapest
  repeat' split
  all_goals exact Nat.le_of_ble_eq_true rfl
theorem t_lease {j q k a : Int} {n N : Nat} {C : xS} : (o_lease j q k a n N C).1 ≤ 3 := by
  unfold o_lease
  repeat' split
  all_goals exact Nat.le_of_ble_eq_true rfl
theorem t_sales {p q : Int} {n N : Nat} {C : xS} : (o_sales p q n N C).1 ≤ 3 := by
  unfold o_sales
  repeat' split
  all_goals exact Nat.le_of_ble_eq_true rfl
theorem t_setRules {p f : Int} {n N : Nat} {C : xS} : (o_setRules p f n N C).1 ≤ 3 := by
  unfold o_setRules
  repeat' split
  all_goals exact Nat.le_of_ble_eq_true rfl
theorem t_count {a : Int} {n N : Nat} {C : xS} : (o_count a n N C).1 ≤ 3 := by
  unfold o_count
  repeat' split
  all_goals exact Nat.le_of_ble_eq_true rfl
theorem t_run {m : Int} {n N : Nat} {C : xS} : (o_run m n N C).1 ≤ 3 := by
  unfold o_run
  repeat' split
  all_goals exact Nat.le_of_ble_eq_true rfl
theorem t_ticksToFinish {q m : Int} {n N : Nat} {C : xS} : (o_ticksToFinish q m n N C).1 ≤ 3 := by
  unfold o_ticksToFinish
  repeat' split
  all_goals exact Nat.le_of_ble_eq_true rfl
theorem t_moneyAfter {q m : Int} {n N : Nat} {C : xS} : (o_moneyAfter q m n N C).1 ≤ 3 := by
  unfold o_moneyAfter
  repeat' split
  all_goals exact Nat.le_of_ble_eq_true rfl
theorem t_bestBid {q m : Int} {n N : Nat} {C : xS} : (o_bestBid q m n N C).1 ≤ 3 := by
  unfold o_bestBid
  repeat' split
  all_goals exact Nat.le_of_ble_eq_true rfl
theorem z_canAccept {p b d : Int} {n N : Nat} {C : xS} : (o_canAccept p b d n N C).2.1 = 0 ∨ (o_canAccept p b d n N C).2.1 = 1 := by
  unfold o_canAccept
  split
  · dsimp only
    unfold b2i
    split
    · exact Or.inr rfl
    · exact Or.inl rfl
  · exact Or.inl rfl
theorem z_isBounded {p b d : Int} {n N : Nat} {C : xS} : (o_isBounded p b d n N C).2.1 = 0 ∨ (o_isBounded p b d n N C).2.1 = 1 := by
  unfold o_isBounded
  split
  · dsimp only
    unfold b2i
    split
    · exact Or.inr rfl
    · exact Or.inl rfl
  · exact Or.inl rfl
set_option maxHeartbeats 400000 in
theorem w_addProcess {w : xW} {S : xS} {B : String → xS → Prop} {A : Int → xS → Prop} {a b c : Int} {n N : Nat} {T : Int} (hV : VS 0 n N T S) (hT : T ≤ 800000) (ya : xr a) (yb : xr b) (yc : xr c) (hq : ∀ S1, oS False (o_addProcess a b c n N S) S1 → A ((o_addProcess a b c n N S).1 : Int) S1) : Ki w mL_addProcess yL_addProcess 1 6 [xp 0 0, xi a, xi b, xi c, xp 42 0] S A B := by
  refine K.ofH rfl rfl rfl rfl (Nat.le_of_ble_eq_true rfl) rfl ?_
  refine xs_aload_4 eL_addProcess_0 ?_
  refine xa_iconst eL_addProcess_2 ?_
  refine xs_aload_0 eL_addProcess_3 ?_
  refine xs_iload_1 eL_addProcess_4 ?_
  refine xs_iload_2 eL_addProcess_5 ?_
  refine xs_iload_3 eL_addProcess_6 ?_
  refine xbi_V3 (mi' := mX7_addProcess) (y := yX7_addProcess) eL_addProcess_7 (xw_5 lRL_7 wy_X7_addProcess) rfl ⟨wd_X7_addProcess, by decide, by decide⟩ (by decide) (fun _ => rfl) rfl (Nat.le_of_ble_eq_true rfl) rfl ⟨by decide, by decide⟩ (F_addProcess hV hT ya yb yc (fun S9 e9 s9 => ?_) (fun S9 e9 s9 => ?_) (fun S9 e9 s9 => ?_))
  · refine xa_i2lw eL_addProcess_10 ?_
    refine pa_42 eL_addProcess_11 (by decide) (wr_64 _) ?_
    refine xa_goto (tgt := 23) eL_addProcess_12 (by decide) ?_
    refine xa_iconst eL_addProcess_23 ?_
    exact xa_iret eL_addProcess_24 rfl ⟨_, rfl, by have h := hq _ ⟨S9, s9, Or.inl ⟨e9, rfl⟩⟩; rw [e9] at h; exact h⟩
  · refine xt_c0 rfl rfl (by decide) (xtb_in (i := 713) (by decide +kernel) (by decide +kernel)) (List.mem_of_getElem? (i := 1) rfl) (fun q => ?_)
    refine xs_astoree_5 eL_addProcess_15 rfl ?_
    refine xa_iconst eL_addProcess_17 ?_
    exact xa_iret eL_addProcess_18 rfl ⟨_, rfl, by have h := hq S9 ⟨S9, by rw [(e_addProcess (by rw [e9]; exact Nat.succ_ne_zero _)).1]; exact s9, Or.inr ⟨Or.inl (by rw [e9]; exact Nat.succ_ne_zero _), rfl⟩⟩; rw [e9] at h; exact h⟩
  · refine xt_c1 rfl (by decide) (xtb_in (i := 713) (by decide +kernel) (by decide +kernel)) (List.mem_of_getElem? (i := 2) rfl) rfl (by decide) (xtb_in (i := 714) (by decide +kernel) (by decide +kernel)) (List.mem_of_getElem? (i := 2) rfl) (fun q => ?_)
    refine xs_astoree_5 eL_addProcess_19 rfl ?_
    refine xa_iconst eL_addProcess_21 ?_
    exact xa_iret eL_addProcess_22 rfl ⟨_, rfl, by have h := hq S9 ⟨S9, by rw [(e_addProcess (by rw [e9]; exact Nat.succ_ne_zero _)).1]; exact s9, Or.inr ⟨Or.inl (by rw [e9]; exact Nat.succ_ne_zero _), rfl⟩⟩; rw [e9] at h; exact h⟩
set_option maxHeartbeats 400000 in
theorem w_setBid {w : xW} {S : xS} {B : String → xS → Prop} {A : Int → xS → Prop} {p b : Int} {n N : Nat} {T : Int} (hV : VS 0 n N T S) (hT : T ≤ 800000) (yp : xr p) (yb : xr b) (hq : ∀ S1, oS False (o_setBid p b n N S) S1 → A ((o_setBid p b n N S).1 : Int) S1) : Ki w mL_setBid yL_setBid 1 6 [xp 0 0, xi p, xi b, xp 42 0] S A B := by
  refine K.ofH rfl rfl rfl rfl (Nat.le_of_ble_eq_true rfl) rfl ?_
  refine xs_aload_3 eL_setBid_0 ?_
  refine xa_iconst eL_setBid_1 ?_
  refine xs_aload_0 eL_setBid_2 ?_
  refine xs_iload_1 eL_setBid_3 ?_
  refine xs_iload_2 eL_setBid_4 ?_
  refine xbi_V2 (mi' := mX7_setBid) (y := yX7_setBid) eL_setBid_5 (xw_5 lRL_17 wy_X7_setBid) rfl ⟨wd_X7_setBid, by decide, by decide⟩ (by decide) (fun _ => rfl) rfl (Nat.le_of_ble_eq_true rfl) rfl ⟨by decide, by decide⟩ (F_setBid hV hT yp yb (fun S9 e9 s9 => ?_) (fun S9 e9 s9 => ?_) (fun S9 e9 s9 => ?_))
  · refine xa_i2lw eL_setBid_8 ?_
    refine pa_42 eL_setBid_9 (by decide) (wr_64 _) ?_
    refine xa_goto (tgt := 21) eL_setBid_10 (by decide) ?_
    refine xa_iconst eL_setBid_21 ?_
    exact xa_iret eL_setBid_22 rfl ⟨_, rfl, by have h := hq _ ⟨S9, s9, Or.inl ⟨e9, rfl⟩⟩; rw [e9] at h; exact h⟩
  · refine xt_c0 rfl rfl (by decide) (xtb_in (i := 765) (by decide +kernel) (by decide +kernel)) (List.mem_of_getElem? (i := 0) rfl) (fun q => ?_)
    refine xs_astoree_4 eL_setBid_13 rfl ?_
    refine xa_iconst eL_setBid_15 ?_
    exact xa_iret eL_setBid_16 rfl ⟨_, rfl, by have h := hq S9 ⟨S9, by rw [(e_setBid (by rw [e9]; exact Nat.succ_ne_zero _)).1]; exact s9, Or.inr ⟨Or.inl (by rw [e9]; exact Nat.succ_ne_zero _), rfl⟩⟩; rw [e9] at h; exact h⟩
  · refine xt_c1 rfl (by decide) (xtb_in (i := 765) (by decide +kernel) (by decide +kernel)) (List.mem_of_getElem? (i := 0) rfl) rfl (by decide) (xtb_in (i := 713) (by decide +kernel) (by decide +kernel)) (List.mem_of_getElem? (i := 1) rfl) (fun q => ?_)
    refine xs_astoree_4 eL_setBid_17 rfl ?_
    refine xa_iconst eL_setBid_19 ?_
    exact xa_iret eL_setBid_20 rfl ⟨_, rfl, by have h := hq S9 ⟨S9, by rw [(e_setBid (by rw [e9]; exact Nat.succ_ne_zero _)).1]; exact s9, Or.inr ⟨Or.inl (by rw [e9]; exact Nat.succ_ne_zero _), rfl⟩⟩; rw [e9] at h; exact h⟩
set_option maxHeartbeats 400000 in
theorem w_setArrival {w : xW} {S : xS} {B : String → xS → Prop} {A : Int → xS → Prop} {p e a : Int} {n N : Nat} {T : Int} (hV : VS 0 n N T S) (hT : T ≤ 800000) (yp : xr p) (ye : xr e) (ya : xr a) (hq : ∀ S1, oS True (o_setArrival p e a n N S) S1 → A ((o_setArrival p e a n N S).1 : Int) S1) : Ki w mL_setArrival yL_setArrival 1 6 [xp 0 0, xi p, xi e, xi a] S A B := by
  refine K.ofH rfl rfl rfl rfl (Nat.le_of_ble_eq_true rfl) rfl ?_
  refine xs_aload_0 eL_setArrival_0 ?_
  refine xs_iload_1 eL_setArrival_1 ?_
  refine xs_iload_2 eL_setArrival_2 ?_
  refine xs_iload_3 eL_setArrival_3 ?_
  refine xbv_V3 (mi' := mX7_setArrival) (y := yX7_setArrival) eL_setArrival_4 (xw_5 lRL_23 wy_X7_setArrival) rfl ⟨wd_X7_setArrival, by decide, by decide⟩ (by decide) (fun _ => rfl) rfl (Nat.le_of_ble_eq_true rfl) rfl ⟨by decide, by decide⟩ (F_setArrival hV hT yp ye ya (fun S9 e9 s9 => ?_) (fun S9 e9 s9 => ?_) (fun S9 e9 s9 => ?_))
  · refine xa_goto (tgt := 18) eL_setArrival_7 (by decide) ?_
    refine xa_iconst eL_setArrival_18 ?_
    exact xa_iret eL_setArrival_19 rfl ⟨_, rfl, by have h := hq S9 ⟨S9, s9, Or.inr ⟨Or.inr trivial, rfl⟩⟩; rw [e9] at h; exact h⟩
  · refine xt_c0 rfl rfl (by decide) (xtb_in (i := 765) (by decide +kernel) (by decide +kernel)) (List.mem_of_getElem? (i := 0) rfl) (fun q => ?_)
    refine xs_astoree_4 eL_setArrival_10 rfl ?_
    refine xa_iconst eL_setArrival_12 ?_
    exact xa_iret eL_setArrival_13 rfl ⟨_, rfl, by have h := hq S9 ⟨S9, by rw [(e_setArrival (by rw [e9]; exact Nat.succ_ne_zero _)).1]; exact s9, Or.inr ⟨Or.inl (by rw [e9]; exact Nat.succ_ne_zero _), rfl⟩⟩; rw [e9] at h; exact h⟩
  · refine xt_c1 rfl (by decide) (xtb_in (i := 765) (by decide +kernel) (by decide +kernel)) (List.mem_of_getElem? (i := 0) rfl) rfl (by decide) (xtb_in (i := 713) (by decide +kernel) (by decide +kernel)) (List.mem_of_getElem? (i := 1) rfl) (fun q => ?_)
    refine xs_astoree_4 eL_setArrival_14 rfl ?_
    refine xa_iconst eL_setArrival_16 ?_
    exact xa_iret eL_setArrival_17 rfl ⟨_, rfl, by have h := hq S9 ⟨S9, by rw [(e_setArrival (by rw [e9]; exact Nat.succ_ne_zero _)).1]; exact s9, Or.inr ⟨Or.inl (by rw [e9]; exact Nat.succ_ne_zero _), rfl⟩⟩; rw [e9] at h; exact h⟩
set_option maxHeartbeats 400000 in
theorem w_addWork {w : xW} {S : xS} {B : String → xS → Prop} {A : Int → xS → Prop} {p t : Int} {n N : Nat} {T : Int} (hV : VS 0 n N T S) (hT : T ≤ 800000) (yp : xr p) (yt : xr t) (hq : ∀ S1, oS False (o_addWork p t n N S) S1 → A ((o_addWork p t n N S).1 : Int) S1) : Ki w mL_addWork yL_addWork 1 6 [xp 0 0, xi p, xi t, xp 42 0] S A B := by
  refine K.ofH rfl rfl rfl rfl (Nat.le_of_ble_eq_true rfl) rfl ?_
  refine xs_aload_3 eL_addWork_0 ?_
  refine xa_iconst eL_addWork_1 ?_
  refine xs_aload_0 eL_addWork_2 ?_
  refine xs_iload_1 eL_addWork_3 ?_
  refine xs_iload_2 eL_addWork_4 ?_
  refine xbi_V2 (mi' := mX7_addWork) (y := yX7_addWork) eL_addWork_5 (xw_5 lRL_27 wy_X7_addWork) rfl ⟨wd_X7_addWork, by decide, by decide⟩ (by decide) (fun _ => rfl) rfl (Nat.le_of_ble_eq_true rfl) rfl ⟨by decide, by decide⟩ (F_addWork hV hT yp yt (fun S9 e9 s9 => ?_) (fun S9 e9 s9 => ?_) (fun S9 e9 s9 => ?_))
  · refine xa_i2lw eL_addWork_8 ?_
    refine pa_42 eL_addWork_9 (by decide) (wr_64 _) ?_
    refine xa_goto (tgt := 21) eL_addWork_10 (by decide) ?_
    refine xa_iconst eL_addWork_21 ?_
    exact xa_iret eL_addWork_22 rfl ⟨_, rfl, by have h := hq _ ⟨S9, s9, Or.inl ⟨e9, rfl⟩⟩; rw [e9] at h; exact h⟩
  · refine xt_c0 rfl rfl (by decide) (xtb_in (i := 765) (by decide +kernel) (by decide +kernel)) (List.mem_of_getElem? (i := 0) rfl) (fun q => ?_)
    refine xs_astoree_4 eL_addWork_13 rfl ?_
    refine xa_iconst eL_addWork_15 ?_
    exact xa_iret eL_addWork_16 rfl ⟨_, rfl, by have h := hq S9 ⟨S9, by rw [(e_addWork (by rw [e9]; exact Nat.succ_ne_zero _)).1]; exact s9, Or.inr ⟨Or.inl (by rw [e9]; exact Nat.succ_ne_zero _), rfl⟩⟩; rw [e9] at h; exact h⟩
  · refine xt_c1 rfl (by decide) (xtb_in (i := 765) (by decide +kernel) (by decide +kernel)) (List.mem_of_getElem? (i := 0) rfl) rfl (by decide) (xtb_in (i := 713) (by decide +kernel) (by decide +kernel)) (List.mem_of_getElem? (i := 1) rfl) (fun q => ?_)
    refine xs_astoree_4 eL_addWork_17 rfl ?_
    refine xa_iconst eL_addWork_19 ?_
    exact xa_iret eL_addWork_20 rfl ⟨_, rfl, by have h := hq S9 ⟨S9, by rw [(e_addWork (by rw [e9]; exact Nat.succ_ne_zero _)).1]; exact s9, Or.inr ⟨Or.inl (by rw [e9]; exact Nat.succ_ne_zero _), rfl⟩⟩; rw [e9] at h; exact h⟩
set_option maxHeartbeats 400000 in
theorem w_pay {w : xW} {S : xS} {B : String → xS → Prop} {A : Int → xS → Prop} {p t : Int} {n N : Nat} {T : Int} (hV : VS 0 n N T S) (hT : T ≤ 800000) (yp : xr p) (yt : xr t) (hq : ∀ S1, oS False (o_pay p t n N S) S1 → A ((o_pay p t n N S).1 : Int) S1) : Ki w mL_pay yL_pay 1 6 [xp 0 0, xi p, xi t, xp 42 0] S A B := by
  refine K.ofH rfl rfl rfl rfl (Nat.le_of_ble_eq_true rfl) rfl ?_
  refine xs_aload_3 eL_pay_0 ?_
  refine xa_iconst eL_pay_1 ?_
  refine xs_aload_0 eL_pay_2 ?_
  refine xs_iload_1 eL_pay_3 ?_
  refine xs_iload_2 eL_pay_4 ?_
  refine xbi_V2 (mi' := mX7_pay) (y := yX7_pay) eL_pay_5 (xw_5 lRL_30 wy_X7_pay) rfl ⟨wd_X7_pay, by decide, by decide⟩ (by decide) (fun _ => rfl) rfl (Nat.le_of_ble_eq_true rfl) rfl ⟨by decide, by decide⟩ (F_pay hV hT yp yt (fun S9 e9 s9 => ?_) (fun S9 e9 s9 => ?_) (fun S9 e9 s9 => ?_))
  · refine xa_i2lw eL_pay_8 ?_
    refine pa_42 eL_pay_9 (by decide) (wr_64 _) ?_
    refine xa_goto (tgt := 21) eL_pay_10 (by decide) ?_
    refine xa_iconst eL_pay_21 ?_
    exact xa_iret eL_pay_22 rfl ⟨_, rfl, by have h := hq _ ⟨S9, s9, Or.inl ⟨e9, rfl⟩⟩; rw [e9] at h; exact h⟩
  · refine xt_c0 rfl rfl (by decide) (xtb_in (i := 765) (by decide +kernel) (by decide +kernel)) (List.mem_of_getElem? (i := 0) rfl) (fun q => ?_)
    refine xs_astoree_4 eL_pay_13 rfl ?_
    refine xa_iconst eL_pay_15 ?_
    exact xa_iret eL_pay_16 rfl ⟨_, rfl, by have h := hq S9 ⟨S9, by rw [(e_pay (by rw [e9]; exact Nat.succ_ne_zero _)).1]; exact s9, Or.inr ⟨Or.inl (by rw [e9]; exact Nat.succ_ne_zero _), rfl⟩⟩; rw [e9] at h; exact h⟩
  · refine xt_c1 rfl (by decide) (xtb_in (i := 765) (by decide +kernel) (by decide +kernel)) (List.mem_of_getElem? (i := 0) rfl) rfl (by decide) (xtb_in (i := 713) (by decide +kernel) (by decide +kernel)) (List.mem_of_getElem? (i := 1) rfl) (fun q => ?_)
    refine xs_astoree_4 eL_pay_17 rfl ?_
    refine xa_iconst eL_pay_19 ?_
    exact xa_iret eL_pay_20 rfl ⟨_, rfl, by have h := hq S9 ⟨S9, by rw [(e_pay (by rw [e9]; exact Nat.succ_ne_zero _)).1]; exact s9, Or.inr ⟨Or.inl (by rw [e9]; exact Nat.succ_ne_zero _), rfl⟩⟩; rw [e9] at h; exact h⟩
set_option maxHeartbeats 400000 in
theorem w_process {w : xW} {S : xS} {B : String → xS → Prop} {A : Int → xS → Prop} {p a : Int} {n N : Nat} {T : Int} (hV : VS 0 n N T S) (hT : T ≤ 800000) (yp : xr p) (ya : xr a) (hq : ∀ S1, oS False (o_process p a n N S) S1 → A ((o_process p a n N S).1 : Int) S1) : Ki w mL_process yL_process 1 6 [xp 0 0, xi p, xi a, xp 42 0] S A B := by
  refine K.ofH rfl rfl rfl rfl (Nat.le_of_ble_eq_true rfl) rfl ?_
  refine xs_aload_3 eL_process_0 ?_
  refine xa_iconst eL_process_1 ?_
  refine xs_aload_0 eL_process_2 ?_
  refine xs_iload_1 eL_process_3 ?_
  refine xs_iload_2 eL_process_4 ?_
  refine xbi_V2 (mi' := mX7_process) (y := yX7_process) eL_process_5 (xw_5 lRL_33 wy_X7_process) rfl ⟨wd_X7_process, by decide, by decide⟩ (by decide) (fun _ => rfl) rfl (Nat.le_of_ble_eq_true rfl) rfl ⟨by decide, by decide⟩ (F_process hV hT yp ya (fun S9 e9 s9 => ?_) (fun S9 e9 s9 => ?_) (fun S9 e9 s9 => ?_))
  · refine xa_i2lw eL_process_8 ?_
    refine pa_42 eL_process_9 (by decide) (wr_64 _) ?_
    refine xa_goto (tgt := 21) eL_process_10 (by decide) ?_
    refine xa_iconst eL_process_21 ?_
    exact xa_iret eL_process_22 rfl ⟨_, rfl, by have h := hq _ ⟨S9, s9, Or.inl ⟨e9, rfl⟩⟩; rw [e9] at h; exact h⟩
  · refine xt_c0 rfl rfl (by decide) (xtb_in (i := 765) (by decide +kernel) (by decide +kernel)) (List.mem_of_getElem? (i := 0) rfl) (fun q => ?_)
    refine xs_astoree_4 eL_process_13 rfl ?_
    refine xa_iconst eL_process_15 ?_
    exact xa_iret eL_process_16 rfl ⟨_, rfl, by have h := hq S9 ⟨S9, by rw [(e_process (by rw [e9]; exact Nat.succ_ne_zero _)).1]; exact s9, Or.inr ⟨Or.inl (by rw [e9]; exact Nat.succ_ne_zero _), rfl⟩⟩; rw [e9] at h; exact h⟩
  · refine xt_c1 rfl (by decide) (xtb_in (i := 765) (by decide +kernel) (by decide +kernel)) (List.mem_of_getElem? (i := 0) rfl) rfl (by decide) (xtb_in (i := 713) (by decide +kernel) (by decide +kernel)) (List.mem_of_getElem? (i := 1) rfl) (fun q => ?_)
    refine xs_astoree_4 eL_process_17 rfl ?_
    refine xa_iconst eL_process_19 ?_
    exact xa_iret eL_process_20 rfl ⟨_, rfl, by have h := hq S9 ⟨S9, by rw [(e_process (by rw [e9]; exact Nat.succ_ne_zero _)).1]; exact s9, Or.inr ⟨Or.inl (by rw [e9]; exact Nat.succ_ne_zero _), rfl⟩⟩; rw [e9] at h; exact h⟩
set_option maxHeartbeats 400000 in
theorem w_promise {w : xW} {S : xS} {B : String → xS → Prop} {A : Int → xS → Prop} {q p b d : Int} {n N : Nat} {T : Int} (hV : VS 0 n N T S) (hT : T ≤ 800000) (yq : xr q) (yp : xr p) (yb : xr b) (yd : xr d) (hq : ∀ S1, oS False (o_promise q p b d n N S) S1 → A ((o_promise q p b d n N S).1 : Int) S1) : Ki w mL_promise yL_promise 1 6 [xp 0 0, xi q, xi p, xi b, xi d, xp 42 0] S A B := by
  refine K.ofH rfl rfl rfl rfl (Nat.le_of_ble_eq_true rfl) rfl ?_
  refine xs_aload_5 eL_promise_0 ?_
  refine xa_iconst eL_promise_2 ?_
  refine xs_aload_0 eL_promise_3 ?_
  refine xs_iload_1 eL_promise_4 ?_
  refine xs_iload_2 eL_promise_5 ?_
  refine xs_iload_3 eL_promise_6 ?_
  refine xs_iload_4 eL_promise_7 ?_
  refine xbi_V4 (mi' := mX7_promise) (y := yX7_promise) eL_promise_9 (xw_5 lRL_36 wy_X7_promise) rfl ⟨wd_X7_promise, by decide, by decide⟩ (by decide) (fun _ => rfl) rfl (Nat.le_of_ble_eq_true rfl) rfl ⟨by decide, by decide⟩ (F_promise hV hT yq yp yb yd (fun S9 e9 s9 => ?_) (fun S9 e9 s9 => ?_) (fun S9 e9 s9 => ?_) (fun S9 e9 s9 => ?_))
  · refine xa_i2lw eL_promise_12 ?_
    refine pa_42 eL_promise_13 (by decide) (wr_64 _) ?_
    refine xa_goto (tgt := 29) eL_promise_14 (by decide) ?_
    refine xa_iconst eL_promise_29 ?_
    exact xa_iret eL_promise_30 rfl ⟨_, rfl, by have h := hq _ ⟨S9, s9, Or.inl ⟨e9, rfl⟩⟩; rw [e9] at h; exact h⟩
  · refine xt_c0 rfl rfl (by decide) (xtb_in (i := 765) (by decide +kernel) (by decide +kernel)) (List.mem_of_getElem? (i := 0) rfl) (fun q => ?_)
    refine xs_astoree_6 eL_promise_17 rfl ?_
    refine xa_iconst eL_promise_19 ?_
    exact xa_iret eL_promise_20 rfl ⟨_, rfl, by have h := hq S9 ⟨S9, by rw [(e_promise (by rw [e9]; exact Nat.succ_ne_zero _)).1]; exact s9, Or.inr ⟨Or.inl (by rw [e9]; exact Nat.succ_ne_zero _), rfl⟩⟩; rw [e9] at h; exact h⟩
  · refine xt_c1 rfl (by decide) (xtb_in (i := 765) (by decide +kernel) (by decide +kernel)) (List.mem_of_getElem? (i := 0) rfl) rfl (by decide) (xtb_in (i := 713) (by decide +kernel) (by decide +kernel)) (List.mem_of_getElem? (i := 1) rfl) (fun q => ?_)
    refine xs_astoree_6 eL_promise_21 rfl ?_
    refine xa_iconst eL_promise_23 ?_
    exact xa_iret eL_promise_24 rfl ⟨_, rfl, by have h := hq S9 ⟨S9, by rw [(e_promise (by rw [e9]; exact Nat.succ_ne_zero _)).1]; exact s9, Or.inr ⟨Or.inl (by rw [e9]; exact Nat.succ_ne_zero _), rfl⟩⟩; rw [e9] at h; exact h⟩
  · refine xt_c2 rfl (by decide) (xtb_in (i := 765) (by decide +kernel) (by decide +kernel)) (List.mem_of_getElem? (i := 1) rfl) (by decide) (xtb_in (i := 713) (by decide +kernel) (by decide +kernel)) (List.mem_of_getElem? (i := 2) rfl) rfl (by decide) (xtb_in (i := 714) (by decide +kernel) (by decide +kernel)) (List.mem_of_getElem? (i := 2) rfl) (fun q => ?_)
    refine xs_astoree_6 eL_promise_25 rfl ?_
    refine xa_iconst eL_promise_27 ?_
    exact xa_iret eL_promise_28 rfl ⟨_, rfl, by have h := hq S9 ⟨S9, by rw [(e_promise (by rw [e9]; exact Nat.succ_ne_zero _)).1]; exact s9, Or.inr ⟨Or.inl (by rw [e9]; exact Nat.succ_ne_zero _), rfl⟩⟩; rw [e9] at h; exact h⟩
set_option maxHeartbeats 400000 in
theorem w_canAccept {w : xW} {S : xS} {B : String → xS → Prop} {A : Int → xS → Prop} {p b d : Int} {n N : Nat} {T : Int} (hV : VS 0 n N T S) (hT : T ≤ 800000) (yp : xr p) (yb : xr b) (yd : xr d) (hq : ∀ S1, oS False (o_canAccept p b d n N S) S1 → A ((o_canAccept p b d n N S).1 : Int) S1) : Ki w mL_canAccept yL_canAccept 1 6 [xp 0 0, xi p, xi b, xi d, xp 42 0] S A B := by
  refine K.ofH rfl rfl rfl rfl (Nat.le_of_ble_eq_true rfl) rfl ?_
  refine xs_aload_4 eL_canAccept_0 ?_
  refine xa_iconst eL_canAccept_2 ?_
  refine xs_aload_0 eL_canAccept_3 ?_
  refine xs_iload_1 eL_canAccept_4 ?_
  refine xs_iload_2 eL_canAccept_5 ?_
  refine xs_iload_3 eL_canAccept_6 ?_
  refine xbi_V3 (mi' := mX7_canAccept) (y := yX7_canAccept) eL_canAccept_7 (xw_5 lRL_40 wy_X7_canAccept) rfl ⟨wd_X7_canAccept, by decide, by decide⟩ (by decide) (fun _ => rfl) rfl (Nat.le_of_ble_eq_true rfl) rfl ⟨by decide, by decide⟩ (F_canAccept hV hT yp yb yd (fun S9 e9 s9 => ?_) (fun S9 e9 s9 => ?_))
  · refine xa_if_eq (tgt := 17) eL_canAccept_10 (by decide) (by have h := z_canAccept (p := p) (b := b) (d := d) (n := n) (N := N) (C := S); omega) (fun c10 => ?_) (fun c10 => ?_)
    · refine xa_lconst0 eL_canAccept_17 ?_
      refine pa_42 eL_canAccept_18 (by decide) (by decide) ?_
      refine xa_goto (tgt := 26) eL_canAccept_19 (by decide) ?_
      refine xa_iconst eL_canAccept_26 ?_
      exact xa_iret eL_canAccept_27 rfl ⟨_, rfl, by have h := hq _ ⟨S9, s9, Or.inl ⟨e9, rfl⟩⟩; have hz := z_canAccept (p := p) (b := b) (d := d) (n := n) (N := N) (C := S); rw [e9, show (o_canAccept p b d n N S).2.1 = 0 by omega] at h; exact h⟩
    · refine xa_lconst1 eL_canAccept_13 ?_
      refine xa_goto (tgt := 18) eL_canAccept_14 (by decide) ?_
      refine pa_42 eL_canAccept_18 (by decide) (by decide) ?_
      refine xa_goto (tgt := 26) eL_canAccept_19 (by decide) ?_
      refine xa_iconst eL_canAccept_26 ?_
      exact xa_iret eL_canAccept_27 rfl ⟨_, rfl, by have h := hq _ ⟨S9, s9, Or.inl ⟨e9, rfl⟩⟩; have hz := z_canAccept (p := p) (b := b) (d := d) (n := n) (N := N) (C := S); rw [e9, show (o_canAccept p b d n N S).2.1 = 1 by omega] at h; exact h⟩
  · refine xt_c0 rfl rfl (by decide) (xtb_in (i := 713) (by decide +kernel) (by decide +kernel)) (List.mem_of_getElem? (i := 1) rfl) (fun q => ?_)
    refine xs_astoree_5 eL_canAccept_22 rfl ?_
    refine xa_iconst eL_canAccept_24 ?_
    exact xa_iret eL_canAccept_25 rfl ⟨_, rfl, by have h := hq S9 ⟨S9, by rw [(e_canAccept (by rw [e9]; exact Nat.succ_ne_zero _)).1]; exact s9, Or.inr ⟨Or.inl (by rw [e9]; exact Nat.succ_ne_zero _), rfl⟩⟩; rw [e9] at h; exact h⟩
set_option maxHeartbeats 400000 in
theorem w_greatestBudget {w : xW} {S : xS} {B : String → xS → Prop} {A : Int → xS → Prop} {p d : Int} {n N : Nat} {T : Int} (hV : VS 0 n N T S) (hT : T ≤ 800000) (yp : xr p) (yd : xr d) (hq : ∀ S1, oS False (o_greatestBudget p d n N S) S1 → A ((o_greatestBudget p d n N S).1 : Int) S1) : Ki w mL_greatestBudget yL_greatestBudget 1 6 [xp 0 0, xi p, xi d, xp 42 0] S A B := by
  refine K.ofH rfl rfl rfl rfl (Nat.le_of_ble_eq_true rfl) rfl ?_
  refine xs_aload_3 eL_greatestBudget_0 ?_
  refine xa_iconst eL_greatestBudget_1 ?_
  refine xs_aload_0 eL_greatestBudget_2 ?_
  refine xs_iload_1 eL_greatestBudget_3 ?_
  refine xs_iload_2 eL_greatestBudget_4 ?_
  refine xbi_V2 (mi' := mX7_greatestBudget) (y := yX7_greatestBudget) eL_greatestBudget_5 (xw_5 lRL_44 wy_X7_greatestBudget) rfl ⟨wd_X7_greatestBudget, by decide, by decide⟩ (by decide) (fun _ => rfl) rfl (Nat.le_of_ble_eq_true rfl) rfl ⟨by decide, by decide⟩ (F_greatestBudget hV hT yp yd (fun S9 e9 s9 => ?_) (fun S9 e9 s9 => ?_))
  · refine xa_i2lw eL_greatestBudget_8 ?_
    refine pa_42 eL_greatestBudget_9 (by decide) (wr_64 _) ?_
    refine xa_goto (tgt := 17) eL_greatestBudget_10 (by decide) ?_
    refine xa_iconst eL_greatestBudget_17 ?_
    exact xa_iret eL_greatestBudget_18 rfl ⟨_, rfl, by have h := hq _ ⟨S9, s9, Or.inl ⟨e9, rfl⟩⟩; rw [e9] at h; exact h⟩
  · refine xt_c0 rfl rfl (by decide) (xtb_in (i := 713) (by decide +kernel) (by decide +kernel)) (List.mem_of_getElem? (i := 1) rfl) (fun q => ?_)
    refine xs_astoree_4 eL_greatestBudget_13 rfl ?_
    refine xa_iconst eL_greatestBudget_15 ?_
    exact xa_iret eL_greatestBudget_16 rfl ⟨_, rfl, by have h := hq S9 ⟨S9, by rw [(e_greatestBudget (by rw [e9]; exact Nat.succ_ne_zero _)).1]; exact s9, Or.inr ⟨Or.inl (by rw [e9]; exact Nat.succ_ne_zero _), rfl⟩⟩; rw [e9] at h; exact h⟩
set_option maxHeartbeats 400000 in
theorem w_waitFor {w : xW} {S : xS} {B : String → xS → Prop} {A : Int → xS → Prop} {p b d : Int} {n N : Nat} {T : Int} (hV : VS 0 n N T S) (hT : T ≤ 800000) (yp : xr p) (yb : xr b) (yd : xr d) (hq : ∀ S1, oS False (o_waitFor p b d n N S) S1 → A ((o_waitFor p b d n N S).1 : Int) S1) : Ki w mL_waitFor yL_waitFor 1 6 [xp 0 0, xi p, xi b, xi d, xp 42 0] S A B := by
  refine K.ofH rfl rfl rfl rfl (Nat.le_of_ble_eq_true rfl) rfl ?_
  refine xs_aload_4 eL_waitFor_0 ?_
  refine xa_iconst eL_waitFor_2 ?_
  refine xs_aload_0 eL_waitFor_3 ?_
  refine xs_iload_1 eL_waitFor_4 ?_
  refine xs_iload_2 eL_waitFor_5 ?_
  refine xs_iload_3 eL_waitFor_6 ?_
  refine xbi_V3 (mi' := mX7_waitFor) (y := yX7_waitFor) eL_waitFor_7 (xw_5 lRL_47 wy_X7_waitFor) rfl ⟨wd_X7_waitFor, by decide, by decide⟩ (by decide) (fun _ => rfl) rfl (Nat.le_of_ble_eq_true rfl) rfl ⟨by decide, by decide⟩ (F_waitFor hV hT yp yb yd (fun S9 e9 s9 => ?_) (fun S9 e9 s9 => ?_))
  · refine xa_i2lw eL_waitFor_10 ?_
    refine pa_42 eL_waitFor_11 (by decide) (wr_64 _) ?_
    refine xa_goto (tgt := 19) eL_waitFor_12 (by decide) ?_
    refine xa_iconst eL_waitFor_19 ?_
    exact xa_iret eL_waitFor_20 rfl ⟨_, rfl, by have h := hq _ ⟨S9, s9, Or.inl ⟨e9, rfl⟩⟩; rw [e9] at h; exact h⟩
  · refine xt_c0 rfl rfl (by decide) (xtb_in (i := 713) (by decide +kernel) (by decide +kernel)) (List.mem_of_getElem? (i := 1) rfl) (fun q => ?_)
    refine xs_astoree_5 eL_waitFor_15 rfl ?_
    refine xa_iconst eL_waitFor_17 ?_
    exact xa_iret eL_waitFor_18 rfl ⟨_, rfl, by have h := hq S9 ⟨S9, by rw [(e_waitFor (by rw [e9]; exact Nat.succ_ne_zero _)).1]; exact s9, Or.inr ⟨Or.inl (by rw [e9]; exact Nat.succ_ne_zero _), rfl⟩⟩; rw [e9] at h; exact h⟩
set_option maxHeartbeats 400000 in
theorem w_end {w : xW} {S : xS} {B : String → xS → Prop} {A : Int → xS → Prop} {j : Int} {n N : Nat} {T : Int} (hV : VS 0 n N T S) (hT : T ≤ 800000) (yj : xr j) (hq : ∀ S1, oS False (o_end j n N S) S1 → A ((o_end j n N S).1 : Int) S1) : Ki w mL_end yL_end 1 6 [xp 0 0, xi j, xp 42 0] S A B := by
  refine K.ofH rfl rfl rfl rfl (Nat.le_of_ble_eq_true rfl) rfl ?_
  refine xs_aload_2 eL_end_0 ?_
  refine xa_iconst eL_end_1 ?_
  refine xs_aload_0 eL_end_2 ?_
  refine xs_iload_1 eL_end_3 ?_
  refine xbi_V1 (mi' := mX7_end) (y := yX7_end) eL_end_4 (xw_5 lRL_50 wy_X7_end) rfl ⟨wd_X7_end, by decide, by decide⟩ (by decide) (fun _ => rfl) rfl (Nat.le_of_ble_eq_true rfl) rfl ⟨by decide, by decide⟩ (F_end hV hT yj (fun S9 e9 s9 => ?_) (fun S9 e9 s9 => ?_) (fun S9 e9 s9 => ?_))
  · refine xa_i2lw eL_end_7 ?_
    refine pa_42 eL_end_8 (by decide) (wr_64 _) ?_
    refine xa_goto (tgt := 18) eL_end_9 (by decide) ?_
    refine xa_iconst eL_end_18 ?_
    exact xa_iret eL_end_19 rfl ⟨_, rfl, by have h := hq _ ⟨S9, s9, Or.inl ⟨e9, rfl⟩⟩; rw [e9] at h; exact h⟩
  · refine xt_c0 rfl rfl (by decide) (xtb_in (i := 765) (by decide +kernel) (by decide +kernel)) (List.mem_of_getElem? (i := 0) rfl) (fun q => ?_)
    refine xs_astoree_3 eL_end_12 rfl ?_
    refine xa_iconst eL_end_13 ?_
    exact xa_iret eL_end_14 rfl ⟨_, rfl, by have h := hq S9 ⟨S9, by rw [(e_end (by rw [e9]; exact Nat.succ_ne_zero _)).1]; exact s9, Or.inr ⟨Or.inl (by rw [e9]; exact Nat.succ_ne_zero _), rfl⟩⟩; rw [e9] at h; exact h⟩
  · refine xt_c1 rfl (by decide) (xtb_in (i := 765) (by decide +kernel) (by decide +kernel)) (List.mem_of_getElem? (i := 1) rfl) rfl (by decide) (xtb_in (i := 714) (by decide +kernel) (by decide +kernel)) (List.mem_of_getElem? (i := 2) rfl) (fun q => ?_)
    refine xs_astoree_3 eL_end_15 rfl ?_
    refine xa_iconst eL_end_16 ?_
    exact xa_iret eL_end_17 rfl ⟨_, rfl, by have h := hq S9 ⟨S9, by rw [(e_end (by rw [e9]; exact Nat.succ_ne_zero _)).1]; exact s9, Or.inr ⟨Or.inl (by rw [e9]; exact Nat.succ_ne_zero _), rfl⟩⟩; rw [e9] at h; exact h⟩
set_option maxHeartbeats 400000 in
theorem w_split {w : xW} {S : xS} {B : String → xS → Prop} {A : Int → xS → Prop} {j a : Int} {n N : Nat} {T : Int} (hV : VS 0 n N T S) (hT : T ≤ 800000) (yj : xr j) (ya : xr a) (hq : ∀ S1, oS False (o_split j a n N S) S1 → A ((o_split j a n N S).1 : Int) S1) : Ki w mL_split yL_split 1 6 [xp 0 0, xi j, xi a, xp 42 0] S A B := by
  refine K.ofH rfl rfl rfl rfl (Nat.le_of_ble_eq_true rfl) rfl ?_
  refine xs_aload_3 eL_split_0 ?_
  refine xa_iconst eL_split_1 ?_
  refine xs_aload_0 eL_split_2 ?_
  refine xs_iload_1 eL_split_3 ?_
  refine xs_iload_2 eL_split_4 ?_
  refine xbi_V2 (mi' := mX7_split) (y := yX7_split) eL_split_5 (xw_5 lRL_54 wy_X7_split) rfl ⟨wd_X7_split, by decide, by decide⟩ (by decide) (fun _ => rfl) rfl (Nat.le_of_ble_eq_true rfl) rfl ⟨by decide, by decide⟩ (F_split hV hT yj ya (fun S9 e9 s9 => ?_) (fun S9 e9 s9 => ?_) (fun S9 e9 s9 => ?_) (fun S9 e9 s9 => ?_))
  · refine xa_i2lw eL_split_8 ?_
    refine pa_42 eL_split_9 (by decide) (wr_64 _) ?_
    refine xa_goto (tgt := 25) eL_split_10 (by decide) ?_
    refine xa_iconst eL_split_25 ?_
    exact xa_iret eL_split_26 rfl ⟨_, rfl, by have h := hq _ ⟨S9, s9, Or.inl ⟨e9, rfl⟩⟩; rw [e9] at h; exact h⟩
  · refine xt_c0 rfl rfl (by decide) (xtb_in (i := 765) (by decide +kernel) (by decide +kernel)) (List.mem_of_getElem? (i := 0) rfl) (fun q => ?_)
    refine xs_astoree_4 eL_split_13 rfl ?_
    refine xa_iconst eL_split_15 ?_
    exact xa_iret eL_split_16 rfl ⟨_, rfl, by have h := hq S9 ⟨S9, by rw [(e_split (by rw [e9]; exact Nat.succ_ne_zero _)).1]; exact s9, Or.inr ⟨Or.inl (by rw [e9]; exact Nat.succ_ne_zero _), rfl⟩⟩; rw [e9] at h; exact h⟩
  · refine xt_c1 rfl (by decide) (xtb_in (i := 765) (by decide +kernel) (by decide +kernel)) (List.mem_of_getElem? (i := 0) rfl) rfl (by decide) (xtb_in (i := 713) (by decide +kernel) (by decide +kernel)) (List.mem_of_getElem? (i := 1) rfl) (fun q => ?_)
    refine xs_astoree_4 eL_split_17 rfl ?_
    refine xa_iconst eL_split_19 ?_
    exact xa_iret eL_split_20 rfl ⟨_, rfl, by have h := hq S9 ⟨S9, by rw [(e_split (by rw [e9]; exact Nat.succ_ne_zero _)).1]; exact s9, Or.inr ⟨Or.inl (by rw [e9]; exact Nat.succ_ne_zero _), rfl⟩⟩; rw [e9] at h; exact h⟩
  · refine xt_c2 rfl (by decide) (xtb_in (i := 765) (by decide +kernel) (by decide +kernel)) (List.mem_of_getElem? (i := 1) rfl) (by decide) (xtb_in (i := 713) (by decide +kernel) (by decide +kernel)) (List.mem_of_getElem? (i := 2) rfl) rfl (by decide) (xtb_in (i := 714) (by decide +kernel) (by decide +kernel)) (List.mem_of_getElem? (i := 2) rfl) (fun q => ?_)
    refine xs_astoree_4 eL_split_21 rfl ?_
    refine xa_iconst eL_split_23 ?_
    exact xa_iret eL_split_24 rfl ⟨_, rfl, by have h := hq S9 ⟨S9, by rw [(e_split (by rw [e9]; exact Nat.succ_ne_zero _)).1]; exact s9, Or.inr ⟨Or.inl (by rw [e9]; exact Nat.succ_ne_zero _), rfl⟩⟩; rw [e9] at h; exact h⟩
set_option maxHeartbeats 400000 in
theorem w_told {w : xW} {S : xS} {B : String → xS → Prop} {A : Int → xS → Prop} {j a : Int} {n N : Nat} {T : Int} (hV : VS 0 n N T S) (hT : T ≤ 800000) (yj : xr j) (ya : xr a) (hq : ∀ S1, oS False (o_told j a n N S) S1 → A ((o_told j a n N S).1 : Int) S1) : Ki w mL_told yL_told 1 6 [xp 0 0, xi j, xi a, xp 42 0] S A B := by
  refine K.ofH rfl rfl rfl rfl (Nat.le_of_ble_eq_true rfl) rfl ?_
  refine xs_aload_3 eL_told_0 ?_
  refine xa_iconst eL_told_1 ?_
  refine xs_aload_0 eL_told_2 ?_
  refine xs_iload_1 eL_told_3 ?_
  refine xs_iload_2 eL_told_4 ?_
  refine xbi_V2 (mi' := mX7_told) (y := yX7_told) eL_told_5 (xw_5 lRL_57 wy_X7_told) rfl ⟨wd_X7_told, by decide, by decide⟩ (by decide) (fun _ => rfl) rfl (Nat.le_of_ble_eq_true rfl) rfl ⟨by decide, by decide⟩ (F_told hV hT yj ya (fun S9 e9 s9 => ?_) (fun S9 e9 s9 => ?_) (fun S9 e9 s9 => ?_))
  · refine xa_i2lw eL_told_8 ?_
    refine pa_42 eL_told_9 (by decide) (wr_64 _) ?_
    refine xa_goto (tgt := 21) eL_told_10 (by decide) ?_
    refine xa_iconst eL_told_21 ?_
    exact xa_iret eL_told_22 rfl ⟨_, rfl, by have h := hq _ ⟨S9, s9, Or.inl ⟨e9, rfl⟩⟩; rw [e9] at h; exact h⟩
  · refine xt_c0 rfl rfl (by decide) (xtb_in (i := 765) (by decide +kernel) (by decide +kernel)) (List.mem_of_getElem? (i := 0) rfl) (fun q => ?_)
    refine xs_astoree_4 eL_told_13 rfl ?_
    refine xa_iconst eL_told_15 ?_
    exact xa_iret eL_told_16 rfl ⟨_, rfl, by have h := hq S9 ⟨S9, by rw [(e_told (by rw [e9]; exact Nat.succ_ne_zero _)).1]; exact s9, Or.inr ⟨Or.inl (by rw [e9]; exact Nat.succ_ne_zero _), rfl⟩⟩; rw [e9] at h; exact h⟩
  · refine xt_c1 rfl (by decide) (xtb_in (i := 765) (by decide +kernel) (by decide +kernel)) (List.mem_of_getElem? (i := 0) rfl) rfl (by decide) (xtb_in (i := 713) (by decide +kernel) (by decide +kernel)) (List.mem_of_getElem? (i := 1) rfl) (fun q => ?_)
    refine xs_astoree_4 eL_told_17 rfl ?_
    refine xa_iconst eL_told_19 ?_
    exact xa_iret eL_told_20 rfl ⟨_, rfl, by have h := hq S9 ⟨S9, by rw [(e_told (by rw [e9]; exact Nat.succ_ne_zero _)).1]; exact s9, Or.inr ⟨Or.inl (by rw [e9]; exact Nat.succ_ne_zero _), rfl⟩⟩; rw [e9] at h; exact h⟩
set_option maxHeartbeats 400000 in
theorem w_demand {w : xW} {S : xS} {B : String → xS → Prop} {A : Int → xS → Prop} {a : Int} {n N : Nat} {T : Int} (hV : VS 0 n N T S) (hT : T ≤ 800000) (ya : xr a) (hq : ∀ S1, oS False (o_demand a n N S) S1 → A ((o_demand a n N S).1 : Int) S1) : Ki w mL_demand yL_demand 1 6 [xp 0 0, xi a, xp 42 0] S A B := by
  refine K.ofH rfl rfl rfl rfl (Nat.le_of_ble_eq_true rfl) rfl ?_
  refine xs_aload_2 eL_demand_0 ?_
  refine xa_iconst eL_demand_1 ?_
  refine xs_aload_0 eL_demand_2 ?_
  refine xs_iload_1 eL_demand_3 ?_
  refine xbi_V1 (mi' := mX7_demand) (y := yX7_demand) eL_demand_4 (xw_5 lRL_60 wy_X7_demand) rfl ⟨wd_X7_demand, by decide, by decide⟩ (by decide) (fun _ => rfl) rfl (Nat.le_of_ble_eq_true rfl) rfl ⟨by decide, by decide⟩ (F_demand hV hT ya (fun S9 e9 s9 => ?_) (fun S9 e9 s9 => ?_))
  · refine xa_i2lw eL_demand_7 ?_
    refine pa_42 eL_demand_8 (by decide) (wr_64 _) ?_
    refine xa_goto (tgt := 15) eL_demand_9 (by decide) ?_
    refine xa_iconst eL_demand_15 ?_
    exact xa_iret eL_demand_16 rfl ⟨_, rfl, by have h := hq _ ⟨S9, s9, Or.inl ⟨e9, rfl⟩⟩; rw [e9] at h; exact h⟩
  · refine xt_c0 rfl rfl (by decide) (xtb_in (i := 713) (by decide +kernel) (by decide +kernel)) (List.mem_of_getElem? (i := 1) rfl) (fun q => ?_)
    refine xs_astoree_3 eL_demand_12 rfl ?_
    refine xa_iconst eL_demand_13 ?_
    exact xa_iret eL_demand_14 rfl ⟨_, rfl, by have h := hq S9 ⟨S9, by rw [(e_demand (by rw [e9]; exact Nat.succ_ne_zero _)).1]; exact s9, Or.inr ⟨Or.inl (by rw [e9]; exact Nat.succ_ne_zero _), rfl⟩⟩; rw [e9] at h; exact h⟩
set_option maxHeartbeats 400000 in
theorem w_isBounded {w : xW} {S : xS} {B : String → xS → Prop} {A : Int → xS → Prop} {p b d : Int} {n N : Nat} {T : Int} (hV : VS 0 n N T S) (hT : T ≤ 800000) (yp : xr p) (yb : xr b) (yd : xr d) (hq : ∀ S1, oS False (o_isBounded p b d n N S) S1 → A ((o_isBounded p b d n N S).1 : Int) S1) : Ki w mL_isBounded yL_isBounded 1 6 [xp 0 0, xi p, xi b, xi d, xp 42 0] S A B := by
  refine K.ofH rfl rfl rfl rfl (Nat.le_of_ble_eq_true rfl) rfl ?_
  refine xs_aload_4 eL_isBounded_0 ?_
  refine xa_iconst eL_isBounded_2 ?_
  refine xs_aload_0 eL_isBounded_3 ?_
  refine xs_iload_1 eL_isBounded_4 ?_
  refine xs_iload_2 eL_isBounded_5 ?_
  refine xs_iload_3 eL_isBounded_6 ?_
  refine xbi_V3 (mi' := mX7_isBounded) (y := yX7_isBounded) eL_isBounded_7 (xw_5 lRL_63 wy_X7_isBounded) rfl ⟨wd_X7_isBounded, by decide, by decide⟩ (by decide) (fun _ => rfl) rfl (Nat.le_of_ble_eq_true rfl) rfl ⟨by decide, by decide⟩ (F_isBounded hV hT yp yb yd (fun S9 e9 s9 => ?_) (fun S9 e9 s9 => ?_))
  · refine xa_if_eq (tgt := 17) eL_isBounded_10 (by decide) (by have h := z_isBounded (p := p) (b := b) (d := d) (n := n) (N := N) (C := S); omega) (fun c10 => ?_) (fun c10 => ?_)
    · refine xa_lconst0 eL_isBounded_17 ?_
      refine pa_42 eL_isBounded_18 (by decide) (by decide) ?_
      refine xa_goto (tgt := 26) eL_isBounded_19 (by decide) ?_
      refine xa_iconst eL_isBounded_26 ?_
      exact xa_iret eL_isBounded_27 rfl ⟨_, rfl, by have h := hq _ ⟨S9, s9, Or.inl ⟨e9, rfl⟩⟩; have hz := z_isBounded (p := p) (b := b) (d := d) (n := n) (N := N) (C := S); rw [e9, show (o_isBounded p b d n N S).2.1 = 0 by omega] at h; exact h⟩
    · refine xa_lconst1 eL_isBounded_13 ?_
      refine xa_goto (tgt := 18) eL_isBounded_14 (by decide) ?_
      refine pa_42 eL_isBounded_18 (by decide) (by decide) ?_
      refine xa_goto (tgt := 26) eL_isBounded_19 (by decide) ?_
      refine xa_iconst eL_isBounded_26 ?_
      exact xa_iret eL_isBounded_27 rfl ⟨_, rfl, by have h := hq _ ⟨S9, s9, Or.inl ⟨e9, rfl⟩⟩; have hz := z_isBounded (p := p) (b := b) (d := d) (n := n) (N := N) (C := S); rw [e9, show (o_isBounded p b d n N S).2.1 = 1 by omega] at h; exact h⟩
  · refine xt_c0 rfl rfl (by decide) (xtb_in (i := 713) (by decide +kernel) (by decide +kernel)) (List.mem_of_getElem? (i := 1) rfl) (fun q => ?_)
    refine xs_astoree_5 eL_isBounded_22 rfl ?_
    refine xa_iconst eL_isBounded_24 ?_
    exact xa_iret eL_isBounded_25 rfl ⟨_, rfl, by have h := hq S9 ⟨S9, by rw [(e_isBounded (by rw [e9]; exact Nat.succ_ne_zero _)).1]; exact s9, Or.inr ⟨Or.inl (by rw [e9]; exact Nat.succ_ne_zero _), rfl⟩⟩; rw [e9] at h; exact h⟩
set_option maxHeartbeats 400000 in
theorem w_ask {w : xW} {S : xS} {B : String → xS → Prop} {A : Int → xS → Prop} {j a : Int} {n N : Nat} {T : Int} (hV : VS 0 n N T S) (hT : T ≤ 800000) (yj : xr j) (ya : xr a) (hq : ∀ S1, oS False (o_ask j a n N S) S1 → A ((o_ask j a n N S).1 : Int) S1) : Ki w mL_ask yL_ask 1 6 [xp 0 0, xi j, xi a, xp 42 0] S A B := by
  refine K.ofH rfl rfl rfl rfl (Nat.le_of_ble_eq_true rfl) rfl ?_
  refine xs_aload_3 eL_ask_0 ?_
  refine xa_iconst eL_ask_1 ?_
  refine xs_aload_0 eL_ask_2 ?_
  refine xs_iload_1 eL_ask_3 ?_
  refine xs_iload_2 eL_ask_4 ?_
  refine xbi_V2 (mi' := mX7_ask) (y := yX7_ask) eL_ask_5 (xw_5 lRL_66 wy_X7_ask) rfl ⟨wd_X7_ask, by decide, by decide⟩ (by decide) (fun _ => rfl) rfl (Nat.le_of_ble_eq_true rfl) rfl ⟨by decide, by decide⟩ (F_ask hV hT yj ya (fun S9 e9 s9 => ?_) (fun S9 e9 s9 => ?_) (fun S9 e9 s9 => ?_) (fun S9 e9 s9 => ?_))
  · refine xa_i2lw eL_ask_8 ?_
    refine pa_42 eL_ask_9 (by decide) (wr_64 _) ?_
    refine xa_goto (tgt := 25) eL_ask_10 (by decide) ?_
    refine xa_iconst eL_ask_25 ?_
    exact xa_iret eL_ask_26 rfl ⟨_, rfl, by have h := hq _ ⟨S9, s9, Or.inl ⟨e9, rfl⟩⟩; rw [e9] at h; exact h⟩
  · refine xt_c0 rfl rfl (by decide) (xtb_in (i := 765) (by decide +kernel) (by decide +kernel)) (List.mem_of_getElem? (i := 0) rfl) (fun q => ?_)
    refine xs_astoree_4 eL_ask_13 rfl ?_
    refine xa_iconst eL_ask_15 ?_
    exact xa_iret eL_ask_16 rfl ⟨_, rfl, by have h := hq S9 ⟨S9, by rw [(e_ask (by rw [e9]; exact Nat.succ_ne_zero _)).1]; exact s9, Or.inr ⟨Or.inl (by rw [e9]; exact Nat.succ_ne_zero _), rfl⟩⟩; rw [e9] at h; exact h⟩
  · refine xt_c1 rfl (by decide) (xtb_in (i := 765) (by decide +kernel) (by decide +kernel)) (List.mem_of_getElem? (i := 0) rfl) rfl (by decide) (xtb_in (i := 713) (by decide +kernel) (by decide +kernel)) (List.mem_of_getElem? (i := 1) rfl) (fun q => ?_)
    refine xs_astoree_4 eL_ask_17 rfl ?_
    refine xa_iconst eL_ask_19 ?_
    exact xa_iret eL_ask_20 rfl ⟨_, rfl, by have h := hq S9 ⟨S9, by rw [(e_ask (by rw [e9]; exact Nat.succ_ne_zero _)).1]; exact s9, Or.inr ⟨Or.inl (by rw [e9]; exact Nat.succ_ne_zero _), rfl⟩⟩; rw [e9] at h; exact h⟩
  · refine xt_c2 rfl (by decide) (xtb_in (i := 765) (by decide +kernel) (by decide +kernel)) (List.mem_of_getElem? (i := 1) rfl) (by decide) (xtb_in (i := 713) (by decide +kernel) (by decide +kernel)) (List.mem_of_getElem? (i := 2) rfl) rfl (by decide) (xtb_in (i := 714) (by decide +kernel) (by decide +kernel)) (List.mem_of_getElem? (i := 2) rfl) (fun q => ?_)
    refine xs_astoree_4 eL_ask_21 rfl ?_
    refine xa_iconst eL_ask_23 ?_
    exact xa_iret eL_ask_24 rfl ⟨_, rfl, by have h := hq S9 ⟨S9, by rw [(e_ask (by rw [e9]; exact Nat.succ_ne_zero _)).1]; exact s9, Or.inr ⟨Or.inl (by rw [e9]; exact Nat.succ_ne_zero _), rfl⟩⟩; rw [e9] at h; exact h⟩
set_option maxHeartbeats 400000 in
theorem w_buy {w : xW} {S : xS} {B : String → xS → Prop} {A : Int → xS → Prop} {j q : Int} {n N : Nat} {T : Int} (hV : VS 0 n N T S) (hT : T ≤ 800000) (yj : xr j) (yq : xr q) (hq : ∀ S1, oS False (o_buy j q n N S) S1 → A ((o_buy j q n N S).1 : Int) S1) : Ki w mL_buy yL_buy 1 6 [xp 0 0, xi j, xi q, xp 42 0] S A B := by
  refine K.ofH rfl rfl rfl rfl (Nat.le_of_ble_eq_true rfl) rfl ?_
  refine xs_aload_3 eL_buy_0 ?_
  refine xa_iconst eL_buy_1 ?_
  refine xs_aload_0 eL_buy_2 ?_
  refine xs_iload_1 eL_buy_3 ?_
  refine xs_iload_2 eL_buy_4 ?_
  refine xbi_V2 (mi' := mX7_buy) (y := yX7_buy) eL_buy_5 (xw_5 lRL_69 wy_X7_buy) rfl ⟨wd_X7_buy, by decide, by decide⟩ (by decide) (fun _ => rfl) rfl (Nat.le_of_ble_eq_true rfl) rfl ⟨by decide, by decide⟩ (F_buy hV hT yj yq (fun S9 e9 s9 => ?_) (fun S9 e9 s9 => ?_) (fun S9 e9 s9 => ?_))
  · refine xa_i2lw eL_buy_8 ?_
    refine pa_42 eL_buy_9 (by decide) (wr_64 _) ?_
    refine xa_goto (tgt := 21) eL_buy_10 (by decide) ?_
    refine xa_iconst eL_buy_21 ?_
    exact xa_iret eL_buy_22 rfl ⟨_, rfl, by have h := hq _ ⟨S9, s9, Or.inl ⟨e9, rfl⟩⟩; rw [e9] at h; exact h⟩
  · refine xt_c0 rfl rfl (by decide) (xtb_in (i := 765) (by decide +kernel) (by decide +kernel)) (List.mem_of_getElem? (i := 0) rfl) (fun q => ?_)
    refine xs_astoree_4 eL_buy_13 rfl ?_
    refine xa_iconst eL_buy_15 ?_
    exact xa_iret eL_buy_16 rfl ⟨_, rfl, by have h := hq S9 ⟨S9, by rw [(e_buy (by rw [e9]; exact Nat.succ_ne_zero _)).1]; exact s9, Or.inr ⟨Or.inl (by rw [e9]; exact Nat.succ_ne_zero _), rfl⟩⟩; rw [e9] at h; exact h⟩
  · refine xt_c1 rfl (by decide) (xtb_in (i := 765) (by decide +kernel) (by decide +kernel)) (List.mem_of_getElem? (i := 1) rfl) rfl (by decide) (xtb_in (i := 714) (by decide +kernel) (by decide +kernel)) (List.mem_of_getElem? (i := 2) rfl) (fun q => ?_)
    refine xs_astoree_4 eL_buy_17 rfl ?_
    refine xa_iconst eL_buy_19 ?_
    exact xa_iret eL_buy_20 rfl ⟨_, rfl, by have h := hq S9 ⟨S9, by rw [(e_buy (by rw [e9]; exact Nat.succ_ne_zero _)).1]; exact s9, Or.inr ⟨Or.inl (by rw [e9]; exact Nat.succ_ne_zero _), rfl⟩⟩; rw [e9] at h; exact h⟩
set_option maxHeartbeats 400000 in
theorem w_buyCheapest {w : xW} {S : xS} {B : String → xS → Prop} {A : Int → xS → Prop} {q : Int} {n N : Nat} {T : Int} (hV : VS 0 n N T S) (hT : T ≤ 800000) (yq : xr q) (hq : ∀ S1, oS False (o_buyCheapest q n N S) S1 → A ((o_buyCheapest q n N S).1 : Int) S1) : Ki w mL_buyCheapest yL_buyCheapest 1 6 [xp 0 0, xi q, xp 42 0] S A B := by
  refine K.ofH rfl rfl rfl rfl (Nat.le_of_ble_eq_true rfl) rfl ?_
  refine xs_aload_2 eL_buyCheapest_0 ?_
  refine xa_iconst eL_buyCheapest_1 ?_
  refine xs_aload_0 eL_buyCheapest_2 ?_
  refine xs_iload_1 eL_buyCheapest_3 ?_
  refine xbi_V1 (mi' := mX7_buyCheapest) (y := yX7_buyCheapest) eL_buyCheapest_4 (xw_5 lRL_72 wy_X7_buyCheapest) rfl ⟨wd_X7_buyCheapest, by decide, by decide⟩ (by decide) (fun _ => rfl) rfl (Nat.le_of_ble_eq_true rfl) rfl ⟨by decide, by decide⟩ (F_buyCheapest hV hT yq (fun S9 e9 s9 => ?_) (fun S9 e9 s9 => ?_))
  · refine xa_i2lw eL_buyCheapest_7 ?_
    refine pa_42 eL_buyCheapest_8 (by decide) (wr_64 _) ?_
    refine xa_goto (tgt := 15) eL_buyCheapest_9 (by decide) ?_
    refine xa_iconst eL_buyCheapest_15 ?_
    exact xa_iret eL_buyCheapest_16 rfl ⟨_, rfl, by have h := hq _ ⟨S9, s9, Or.inl ⟨e9, rfl⟩⟩; rw [e9] at h; exact h⟩
  · refine xt_c0 rfl rfl (by decide) (xtb_in (i := 765) (by decide +kernel) (by decide +kernel)) (List.mem_of_getElem? (i := 0) rfl) (fun q => ?_)
    refine xs_astoree_3 eL_buyCheapest_12 rfl ?_
    refine xa_iconst eL_buyCheapest_13 ?_
    exact xa_iret eL_buyCheapest_14 rfl ⟨_, rfl, by have h := hq S9 ⟨S9, by rw [(e_buyCheapest (by rw [e9]; exact Nat.succ_ne_zero _)).1]; exact s9, Or.inr ⟨Or.inl (by rw [e9]; exact Nat.succ_ne_zero _), rfl⟩⟩; rw [e9] at h; exact h⟩
set_option maxHeartbeats 400000 in
theorem w_lease {w : xW} {S : xS} {B : String → xS → Prop} {A : Int → xS → Prop} {j q k a : Int} {n N : Nat} {T : Int} (hV : VS 0 n N T S) (hT : T ≤ 800000) (yj : xr j) (yq : xr q) (yk : xr k) (ya : xr a) (hq : ∀ S1, oS False (o_lease j q k a n N S) S1 → A ((o_lease j q k a n N S).1 : Int) S1) : Ki w mL_lease yL_lease 1 6 [xp 0 0, xi j, xi q, xi k, xi a, xp 42 0] S A B := by
  refine K.ofH rfl rfl rfl rfl (Nat.le_of_ble_eq_true rfl) rfl ?_
  refine xs_aload_5 eL_lease_0 ?_
  refine xa_iconst eL_lease_2 ?_
  refine xs_aload_0 eL_lease_3 ?_
  refine xs_iload_1 eL_lease_4 ?_
  refine xs_iload_2 eL_lease_5 ?_
  refine xs_iload_3 eL_lease_6 ?_
  refine xs_iload_4 eL_lease_7 ?_
  refine xbi_V4 (mi' := mX7_lease) (y := yX7_lease) eL_lease_9 (xw_5 lRL_75 wy_X7_lease) rfl ⟨wd_X7_lease, by decide, by decide⟩ (by decide) (fun _ => rfl) rfl (Nat.le_of_ble_eq_true rfl) rfl ⟨by decide, by decide⟩ (F_lease hV hT yj yq yk ya (fun S9 e9 s9 => ?_) (fun S9 e9 s9 => ?_) (fun S9 e9 s9 => ?_) (fun S9 e9 s9 => ?_))
  · refine xa_i2lw eL_lease_12 ?_
    refine pa_42 eL_lease_13 (by decide) (wr_64 _) ?_
    refine xa_goto (tgt := 29) eL_lease_14 (by decide) ?_
    refine xa_iconst eL_lease_29 ?_
    exact xa_iret eL_lease_30 rfl ⟨_, rfl, by have h := hq _ ⟨S9, s9, Or.inl ⟨e9, rfl⟩⟩; rw [e9] at h; exact h⟩
  · refine xt_c0 rfl rfl (by decide) (xtb_in (i := 765) (by decide +kernel) (by decide +kernel)) (List.mem_of_getElem? (i := 0) rfl) (fun q => ?_)
    refine xs_astoree_6 eL_lease_17 rfl ?_
    refine xa_iconst eL_lease_19 ?_
    exact xa_iret eL_lease_20 rfl ⟨_, rfl, by have h := hq S9 ⟨S9, by rw [(e_lease (by rw [e9]; exact Nat.succ_ne_zero _)).1]; exact s9, Or.inr ⟨Or.inl (by rw [e9]; exact Nat.succ_ne_zero _), rfl⟩⟩; rw [e9] at h; exact h⟩
  · refine xt_c1 rfl (by decide) (xtb_in (i := 765) (by decide +kernel) (by decide +kernel)) (List.mem_of_getElem? (i := 0) rfl) rfl (by decide) (xtb_in (i := 713) (by decide +kernel) (by decide +kernel)) (List.mem_of_getElem? (i := 1) rfl) (fun q => ?_)
    refine xs_astoree_6 eL_lease_21 rfl ?_
    refine xa_iconst eL_lease_23 ?_
    exact xa_iret eL_lease_24 rfl ⟨_, rfl, by have h := hq S9 ⟨S9, by rw [(e_lease (by rw [e9]; exact Nat.succ_ne_zero _)).1]; exact s9, Or.inr ⟨Or.inl (by rw [e9]; exact Nat.succ_ne_zero _), rfl⟩⟩; rw [e9] at h; exact h⟩
  · refine xt_c2 rfl (by decide) (xtb_in (i := 765) (by decide +kernel) (by decide +kernel)) (List.mem_of_getElem? (i := 1) rfl) (by decide) (xtb_in (i := 713) (by decide +kernel) (by decide +kernel)) (List.mem_of_getElem? (i := 2) rfl) rfl (by decide) (xtb_in (i := 714) (by decide +kernel) (by decide +kernel)) (List.mem_of_getElem? (i := 2) rfl) (fun q => ?_)
    refine xs_astoree_6 eL_lease_25 rfl ?_
    refine xa_iconst eL_lease_27 ?_
    exact xa_iret eL_lease_28 rfl ⟨_, rfl, by have h := hq S9 ⟨S9, by rw [(e_lease (by rw [e9]; exact Nat.succ_ne_zero _)).1]; exact s9, Or.inr ⟨Or.inl (by rw [e9]; exact Nat.succ_ne_zero _), rfl⟩⟩; rw [e9] at h; exact h⟩
set_option maxHeartbeats 400000 in
theorem w_sales {w : xW} {S : xS} {B : String → xS → Prop} {A : Int → xS → Prop} {p q : Int} {n N : Nat} {T : Int} (hV : VS 0 n N T S) (hT : T ≤ 800000) (yp : xr p) (yq : xr q) (hq : ∀ S1, oS False (o_sales p q n N S) S1 → A ((o_sales p q n N S).1 : Int) S1) : Ki w mL_sales yL_sales 1 6 [xp 0 0, xi p, xi q, xp 42 0] S A B := by
  refine K.ofH rfl rfl rfl rfl (Nat.le_of_ble_eq_true rfl) rfl ?_
  refine xs_aload_3 eL_sales_0 ?_
  refine xa_iconst eL_sales_1 ?_
  refine xs_aload_0 eL_sales_2 ?_
  refine xs_iload_1 eL_sales_3 ?_
  refine xs_iload_2 eL_sales_4 ?_
  refine xbi_V2 (mi' := mX7_sales) (y := yX7_sales) eL_sales_5 (xw_5 lRL_78 wy_X7_sales) rfl ⟨wd_X7_sales, by decide, by decide⟩ (by decide) (fun _ => rfl) rfl (Nat.le_of_ble_eq_true rfl) rfl ⟨by decide, by decide⟩ (F_sales hV hT yp yq (fun S9 e9 s9 => ?_) (fun S9 e9 s9 => ?_))
  · refine xa_i2lw eL_sales_8 ?_
    refine pa_42 eL_sales_9 (by decide) (wr_64 _) ?_
    refine xa_goto (tgt := 17) eL_sales_10 (by decide) ?_
    refine xa_iconst eL_sales_17 ?_
    exact xa_iret eL_sales_18 rfl ⟨_, rfl, by have h := hq _ ⟨S9, s9, Or.inl ⟨e9, rfl⟩⟩; rw [e9] at h; exact h⟩
  · refine xt_c0 rfl rfl (by decide) (xtb_in (i := 765) (by decide +kernel) (by decide +kernel)) (List.mem_of_getElem? (i := 0) rfl) (fun q => ?_)
    refine xs_astoree_4 eL_sales_13 rfl ?_
    refine xa_iconst eL_sales_15 ?_
    exact xa_iret eL_sales_16 rfl ⟨_, rfl, by have h := hq S9 ⟨S9, by rw [(e_sales (by rw [e9]; exact Nat.succ_ne_zero _)).1]; exact s9, Or.inr ⟨Or.inl (by rw [e9]; exact Nat.succ_ne_zero _), rfl⟩⟩; rw [e9] at h; exact h⟩
set_option maxHeartbeats 400000 in
theorem w_setRules {w : xW} {S : xS} {B : String → xS → Prop} {A : Int → xS → Prop} {p f : Int} {n N : Nat} {T : Int} (hV : VS 0 n N T S) (hT : T ≤ 800000) (yp : xr p) (yf : xr f) (hq : ∀ S1, oS True (o_setRules p f n N S) S1 → A ((o_setRules p f n N S).1 : Int) S1) : Ki w mL_setRules yL_setRules 1 6 [xp 0 0, xi p, xi f] S A B := by
  refine K.ofH rfl rfl rfl rfl (Nat.le_of_ble_eq_true rfl) rfl ?_
  refine xs_aload_0 eL_setRules_0 ?_
  refine xs_iload_1 eL_setRules_1 ?_
  refine xs_iload_2 eL_setRules_2 ?_
  refine xbv_V2 (mi' := mX7_setRules) (y := yX7_setRules) eL_setRules_3 (xw_5 lRL_81 wy_X7_setRules) rfl ⟨wd_X7_setRules, by decide, by decide⟩ (by decide) (fun _ => rfl) rfl (Nat.le_of_ble_eq_true rfl) rfl ⟨by decide, by decide⟩ (F_setRules hV hT yp yf (fun S9 e9 s9 => ?_) (fun S9 e9 s9 => ?_))
  · refine xa_goto (tgt := 12) eL_setRules_6 (by decide) ?_
    refine xa_iconst eL_setRules_12 ?_
    exact xa_iret eL_setRules_13 rfl ⟨_, rfl, by have h := hq S9 ⟨S9, s9, Or.inr ⟨Or.inr trivial, rfl⟩⟩; rw [e9] at h; exact h⟩
  · refine xt_c0 rfl rfl (by decide) (xtb_in (i := 713) (by decide +kernel) (by decide +kernel)) (List.mem_of_getElem? (i := 1) rfl) (fun q => ?_)
    refine xs_astoree_3 eL_setRules_9 rfl ?_
    refine xa_iconst eL_setRules_10 ?_
    exact xa_iret eL_setRules_11 rfl ⟨_, rfl, by have h := hq S9 ⟨S9, by rw [(e_setRules (by rw [e9]; exact Nat.succ_ne_zero _)).1]; exact s9, Or.inr ⟨Or.inl (by rw [e9]; exact Nat.succ_ne_zero _), rfl⟩⟩; rw [e9] at h; exact h⟩
set_option maxHeartbeats 400000 in
theorem w_count {w : xW} {S : xS} {B : String → xS → Prop} {A : Int → xS → Prop} {a : Int} {n N : Nat} {T : Int} (hV : VS 0 n N T S) (hT : T ≤ 800000) (ya : xr a) (hq : ∀ S1, oS False (o_count a n N S) S1 → A ((o_count a n N S).1 : Int) S1) : Ki w mL_count yL_count 1 6 [xp 0 0, xi a, xp 42 0] S A B := by
  refine K.ofH rfl rfl rfl rfl (Nat.le_of_ble_eq_true rfl) rfl ?_
  refine xs_aload_2 eL_count_0 ?_
  refine xa_iconst eL_count_1 ?_
  refine xs_aload_0 eL_count_2 ?_
  refine xs_iload_1 eL_count_3 ?_
  refine xbi_V1 (mi' := mX7_count) (y := yX7_count) eL_count_4 (xw_5 lRL_85 wy_X7_count) rfl ⟨wd_X7_count, by decide, by decide⟩ (by decide) (fun _ => rfl) rfl (Nat.le_of_ble_eq_true rfl) rfl ⟨by decide, by decide⟩ (F_count hV hT ya (fun S9 e9 s9 => ?_) (fun S9 e9 s9 => ?_))
  · refine xa_i2lw eL_count_7 ?_
    refine pa_42 eL_count_8 (by decide) (wr_64 _) ?_
    refine xa_goto (tgt := 15) eL_count_9 (by decide) ?_
    refine xa_iconst eL_count_15 ?_
    exact xa_iret eL_count_16 rfl ⟨_, rfl, by have h := hq _ ⟨S9, s9, Or.inl ⟨e9, rfl⟩⟩; rw [e9] at h; exact h⟩
  · refine xt_c0 rfl rfl (by decide) (xtb_in (i := 713) (by decide +kernel) (by decide +kernel)) (List.mem_of_getElem? (i := 1) rfl) (fun q => ?_)
    refine xs_astoree_3 eL_count_12 rfl ?_
    refine xa_iconst eL_count_13 ?_
    exact xa_iret eL_count_14 rfl ⟨_, rfl, by have h := hq S9 ⟨S9, by rw [(e_count (by rw [e9]; exact Nat.succ_ne_zero _)).1]; exact s9, Or.inr ⟨Or.inl (by rw [e9]; exact Nat.succ_ne_zero _), rfl⟩⟩; rw [e9] at h; exact h⟩
set_option maxHeartbeats 400000 in
theorem w_run {w : xW} {S : xS} {B : String → xS → Prop} {A : Int → xS → Prop} {m : Int} {n N : Nat} {T : Int} (hV : VS 0 n N T S) (hT : T ≤ 800000) (ym : xr m) (hq : ∀ S1, oS False (o_run m n N S) S1 → A ((o_run m n N S).1 : Int) S1) : Ki w mL_run yL_run 1 6 [xp 0 0, xi m, xp 42 0] S A B := by
  refine K.ofH rfl rfl rfl rfl (Nat.le_of_ble_eq_true rfl) rfl ?_
  refine xs_aload_2 eL_run_0 ?_
  refine xa_iconst eL_run_1 ?_
  refine xs_aload_0 eL_run_2 ?_
  refine xs_iload_1 eL_run_3 ?_
  refine xbi_V1 (mi' := mX7_run) (y := yX7_run) eL_run_4 (xw_5 lRL_88 wy_X7_run) rfl ⟨wd_X7_run, by decide, by decide⟩ (by decide) (fun _ => rfl) rfl (Nat.le_of_ble_eq_true rfl) rfl ⟨by decide, by decide⟩ (F_run hV hT ym (fun S9 e9 s9 => ?_) (fun S9 e9 s9 => ?_))
  · refine xa_i2lw eL_run_7 ?_
    refine pa_42 eL_run_8 (by decide) (wr_64 _) ?_
    refine xa_goto (tgt := 15) eL_run_9 (by decide) ?_
    refine xa_iconst eL_run_15 ?_
    exact xa_iret eL_run_16 rfl ⟨_, rfl, by have h := hq _ ⟨S9, s9, Or.inl ⟨e9, rfl⟩⟩; rw [e9] at h; exact h⟩
  · refine xt_c0 rfl rfl (by decide) (xtb_in (i := 713) (by decide +kernel) (by decide +kernel)) (List.mem_of_getElem? (i := 1) rfl) (fun q => ?_)
    refine xs_astoree_3 eL_run_12 rfl ?_
    refine xa_iconst eL_run_13 ?_
    exact xa_iret eL_run_14 rfl ⟨_, rfl, by have h := hq S9 ⟨S9, by rw [(e_run (by rw [e9]; exact Nat.succ_ne_zero _)).1]; exact s9, Or.inr ⟨Or.inl (by rw [e9]; exact Nat.succ_ne_zero _), rfl⟩⟩; rw [e9] at h; exact h⟩
set_option maxHeartbeats 400000 in
theorem w_ticksToFinish {w : xW} {S : xS} {B : String → xS → Prop} {A : Int → xS → Prop} {q m : Int} {n N : Nat} {T : Int} (hV : VS 0 n N T S) (hT : T ≤ 800000) (yq : xr q) (ym : xr m) (hq : ∀ S1, oS False (o_ticksToFinish q m n N S) S1 → A ((o_ticksToFinish q m n N S).1 : Int) S1) : Ki w mL_ticksToFinish yL_ticksToFinish 1 6 [xp 0 0, xi q, xi m, xp 42 0] S A B := by
  refine K.ofH rfl rfl rfl rfl (Nat.le_of_ble_eq_true rfl) rfl ?_
  refine xs_aload_3 eL_ticksToFinish_0 ?_
  refine xa_iconst eL_ticksToFinish_1 ?_
  refine xs_aload_0 eL_ticksToFinish_2 ?_
  refine xs_iload_1 eL_ticksToFinish_3 ?_
  refine xs_iload_2 eL_ticksToFinish_4 ?_
  refine xbi_V2 (mi' := mX7_ticksToFinish) (y := yX7_ticksToFinish) eL_ticksToFinish_5 (xw_5 lRL_91 wy_X7_ticksToFinish) rfl ⟨wd_X7_ticksToFinish, by decide, by decide⟩ (by decide) (fun _ => rfl) rfl (Nat.le_of_ble_eq_true rfl) rfl ⟨by decide, by decide⟩ (F_ticksToFinish hV hT yq ym (fun S9 e9 s9 => ?_) (fun S9 e9 s9 => ?_) (fun S9 e9 s9 => ?_))
  · refine xa_i2lw eL_ticksToFinish_8 ?_
    refine pa_42 eL_ticksToFinish_9 (by decide) (wr_64 _) ?_
    refine xa_goto (tgt := 21) eL_ticksToFinish_10 (by decide) ?_
    refine xa_iconst eL_ticksToFinish_21 ?_
    exact xa_iret eL_ticksToFinish_22 rfl ⟨_, rfl, by have h := hq _ ⟨S9, s9, Or.inl ⟨e9, rfl⟩⟩; rw [e9] at h; exact h⟩
  · refine xt_c0 rfl rfl (by decide) (xtb_in (i := 765) (by decide +kernel) (by decide +kernel)) (List.mem_of_getElem? (i := 0) rfl) (fun q => ?_)
    refine xs_astoree_4 eL_ticksToFinish_13 rfl ?_
    refine xa_iconst eL_ticksToFinish_15 ?_
    exact xa_iret eL_ticksToFinish_16 rfl ⟨_, rfl, by have h := hq S9 ⟨S9, by rw [(e_ticksToFinish (by rw [e9]; exact Nat.succ_ne_zero _)).1]; exact s9, Or.inr ⟨Or.inl (by rw [e9]; exact Nat.succ_ne_zero _), rfl⟩⟩; rw [e9] at h; exact h⟩
  · refine xt_c1 rfl (by decide) (xtb_in (i := 765) (by decide +kernel) (by decide +kernel)) (List.mem_of_getElem? (i := 0) rfl) rfl (by decide) (xtb_in (i := 713) (by decide +kernel) (by decide +kernel)) (List.mem_of_getElem? (i := 1) rfl) (fun q => ?_)
    refine xs_astoree_4 eL_ticksToFinish_17 rfl ?_
    refine xa_iconst eL_ticksToFinish_19 ?_
    exact xa_iret eL_ticksToFinish_20 rfl ⟨_, rfl, by have h := hq S9 ⟨S9, by rw [(e_ticksToFinish (by rw [e9]; exact Nat.succ_ne_zero _)).1]; exact s9, Or.inr ⟨Or.inl (by rw [e9]; exact Nat.succ_ne_zero _), rfl⟩⟩; rw [e9] at h; exact h⟩
set_option maxHeartbeats 400000 in
theorem w_moneyAfter {w : xW} {S : xS} {B : String → xS → Prop} {A : Int → xS → Prop} {q m : Int} {n N : Nat} {T : Int} (hV : VS 0 n N T S) (hT : T ≤ 800000) (yq : xr q) (ym : xr m) (hq : ∀ S1, oS False (o_moneyAfter q m n N S) S1 → A ((o_moneyAfter q m n N S).1 : Int) S1) : Ki w mL_moneyAfter yL_moneyAfter 1 6 [xp 0 0, xi q, xi m, xp 42 0] S A B := by
  refine K.ofH rfl rfl rfl rfl (Nat.le_of_ble_eq_true rfl) rfl ?_
  refine xs_aload_3 eL_moneyAfter_0 ?_
  refine xa_iconst eL_moneyAfter_1 ?_
  refine xs_aload_0 eL_moneyAfter_2 ?_
  refine xs_iload_1 eL_moneyAfter_3 ?_
  refine xs_iload_2 eL_moneyAfter_4 ?_
  refine xbi_V2 (mi' := mX7_moneyAfter) (y := yX7_moneyAfter) eL_moneyAfter_5 (xw_5 lRL_94 wy_X7_moneyAfter) rfl ⟨wd_X7_moneyAfter, by decide, by decide⟩ (by decide) (fun _ => rfl) rfl (Nat.le_of_ble_eq_true rfl) rfl ⟨by decide, by decide⟩ (F_moneyAfter hV hT yq ym (fun S9 e9 s9 => ?_) (fun S9 e9 s9 => ?_) (fun S9 e9 s9 => ?_))
  · refine xa_i2lw eL_moneyAfter_8 ?_
    refine pa_42 eL_moneyAfter_9 (by decide) (wr_64 _) ?_
    refine xa_goto (tgt := 21) eL_moneyAfter_10 (by decide) ?_
    refine xa_iconst eL_moneyAfter_21 ?_
    exact xa_iret eL_moneyAfter_22 rfl ⟨_, rfl, by have h := hq _ ⟨S9, s9, Or.inl ⟨e9, rfl⟩⟩; rw [e9] at h; exact h⟩
  · refine xt_c0 rfl rfl (by decide) (xtb_in (i := 765) (by decide +kernel) (by decide +kernel)) (List.mem_of_getElem? (i := 0) rfl) (fun q => ?_)
    refine xs_astoree_4 eL_moneyAfter_13 rfl ?_
    refine xa_iconst eL_moneyAfter_15 ?_
    exact xa_iret eL_moneyAfter_16 rfl ⟨_, rfl, by have h := hq S9 ⟨S9, by rw [(e_moneyAfter (by rw [e9]; exact Nat.succ_ne_zero _)).1]; exact s9, Or.inr ⟨Or.inl (by rw [e9]; exact Nat.succ_ne_zero _), rfl⟩⟩; rw [e9] at h; exact h⟩
  · refine xt_c1 rfl (by decide) (xtb_in (i := 765) (by decide +kernel) (by decide +kernel)) (List.mem_of_getElem? (i := 0) rfl) rfl (by decide) (xtb_in (i := 713) (by decide +kernel) (by decide +kernel)) (List.mem_of_getElem? (i := 1) rfl) (fun q => ?_)
    refine xs_astoree_4 eL_moneyAfter_17 rfl ?_
    refine xa_iconst eL_moneyAfter_19 ?_
    exact xa_iret eL_moneyAfter_20 rfl ⟨_, rfl, by have h := hq S9 ⟨S9, by rw [(e_moneyAfter (by rw [e9]; exact Nat.succ_ne_zero _)).1]; exact s9, Or.inr ⟨Or.inl (by rw [e9]; exact Nat.succ_ne_zero _), rfl⟩⟩; rw [e9] at h; exact h⟩
set_option maxHeartbeats 400000 in
theorem w_bestBid {w : xW} {S : xS} {B : String → xS → Prop} {A : Int → xS → Prop} {q m : Int} {n N : Nat} {T : Int} (hV : VS 0 n N T S) (hT : T ≤ 800000) (yq : xr q) (ym : xr m) (hq : ∀ S1, oS False (o_bestBid q m n N S) S1 → A ((o_bestBid q m n N S).1 : Int) S1) : Ki w mL_bestBid yL_bestBid 1 6 [xp 0 0, xi q, xi m, xp 42 0] S A B := by
  refine K.ofH rfl rfl rfl rfl (Nat.le_of_ble_eq_true rfl) rfl ?_
  refine xs_aload_3 eL_bestBid_0 ?_
  refine xa_iconst eL_bestBid_1 ?_
  refine xs_aload_0 eL_bestBid_2 ?_
  refine xs_iload_1 eL_bestBid_3 ?_
  refine xs_iload_2 eL_bestBid_4 ?_
  refine xbi_V2 (mi' := mX7_bestBid) (y := yX7_bestBid) eL_bestBid_5 (xw_5 lRL_97 wy_X7_bestBid) rfl ⟨wd_X7_bestBid, by decide, by decide⟩ (by decide) (fun _ => rfl) rfl (Nat.le_of_ble_eq_true rfl) rfl ⟨by decide, by decide⟩ (F_bestBid hV hT yq ym (fun S9 e9 s9 => ?_) (fun S9 e9 s9 => ?_) (fun S9 e9 s9 => ?_))
  · refine xa_i2lw eL_bestBid_8 ?_
    refine pa_42 eL_bestBid_9 (by decide) (wr_64 _) ?_
    refine xa_goto (tgt := 21) eL_bestBid_10 (by decide) ?_
    refine xa_iconst eL_bestBid_21 ?_
    exact xa_iret eL_bestBid_22 rfl ⟨_, rfl, by have h := hq _ ⟨S9, s9, Or.inl ⟨e9, rfl⟩⟩; rw [e9] at h; exact h⟩
  · refine xt_c0 rfl rfl (by decide) (xtb_in (i := 765) (by decide +kernel) (by decide +kernel)) (List.mem_of_getElem? (i := 0) rfl) (fun q => ?_)
    refine xs_astoree_4 eL_bestBid_13 rfl ?_
    refine xa_iconst eL_bestBid_15 ?_
    exact xa_iret eL_bestBid_16 rfl ⟨_, rfl, by have h := hq S9 ⟨S9, by rw [(e_bestBid (by rw [e9]; exact Nat.succ_ne_zero _)).1]; exact s9, Or.inr ⟨Or.inl (by rw [e9]; exact Nat.succ_ne_zero _), rfl⟩⟩; rw [e9] at h; exact h⟩
  · refine xt_c1 rfl (by decide) (xtb_in (i := 765) (by decide +kernel) (by decide +kernel)) (List.mem_of_getElem? (i := 0) rfl) rfl (by decide) (xtb_in (i := 713) (by decide +kernel) (by decide +kernel)) (List.mem_of_getElem? (i := 1) rfl) (fun q => ?_)
    refine xs_astoree_4 eL_bestBid_17 rfl ?_
    refine xa_iconst eL_bestBid_19 ?_
    exact xa_iret eL_bestBid_20 rfl ⟨_, rfl, by have h := hq S9 ⟨S9, by rw [(e_bestBid (by rw [e9]; exact Nat.succ_ne_zero _)).1]; exact s9, Or.inr ⟨Or.inl (by rw [e9]; exact Nat.succ_ne_zero _), rfl⟩⟩; rw [e9] at h; exact h⟩
