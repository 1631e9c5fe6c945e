/-! rows of the abstract machine, on: branches, arithmetic, fields, arrays -/
theorem xn_eq0 {a : Int} (ha : xr a) : Int32.ofInt a = 0 ↔ a = 0 := ⟨fun q => by rw [← xn_ti ha, q]; rfl, fun q => by rw [q]; rfl⟩
theorem xn_eq {a b : Int} (ha : xr a) (hb : xr b) : Int32.ofInt a = Int32.ofInt b ↔ a = b := ⟨fun q => by rw [← xn_ti ha, q, xn_ti hb], fun q => by rw [q]⟩
theorem xn_lt {a b : Int} (ha : xr a) (hb : xr b) : Int32.ofInt a < Int32.ofInt b ↔ a < b := by rw [Int32.lt_iff_toInt_lt, xn_ti ha, xn_ti hb]
theorem xn_le {a b : Int} (ha : xr a) (hb : xr b) : Int32.ofInt a ≤ Int32.ofInt b ↔ a ≤ b := by rw [Int32.le_iff_toInt_le, xn_ti ha, xn_ti hb]
theorem xn_0 : (0 : Int32) = Int32.ofInt 0 := by decide
theorem xn_r0 : xr 0 := by decide
theorem xn_nat {a : Int} (ha : xr a) (h0 : 0 ≤ a) : (Int32.ofInt a).toNatClampNeg = a.toNat := by
  rw [← Int32.toNat_toInt, xn_ti ha]
theorem xn_in {a : Int} {n : Nat} (h : 0 ≤ a ∧ a < n) (hn : n < 2147483648) : vp_in (Int32.ofInt a) n := by
  refine vp_in_iff.mpr ?_
  rw [xn_ti (by omega)]
  exact h
def xcmp (a b : Int) : Int := if b < a then 1 else if a = b then 0 else -1
theorem xn_cmp {a b : Int} (ha : x64 a) (hb : x64 b) : lg_cmp (Int64.ofInt a) (Int64.ofInt b) = Int32.ofInt (xcmp a b) := by
  unfold lg_cmp xcmp
  have h1 : (Int64.ofInt a > Int64.ofInt b) ↔ b < a := by
    show Int64.ofInt b < Int64.ofInt a ↔ _
    rw [Int64.lt_iff_toInt_lt, xn_tl ha, xn_tl hb]
  have h2 : (Int64.ofInt a = Int64.ofInt b) ↔ a = b := ⟨fun q => by rw [← xn_tl ha, q, xn_tl hb], fun q => by rw [q]⟩
  by_cases q : b < a
  · rw [if_pos (h1.mpr q), if_pos q]; rfl
  · rw [if_neg (fun z => q (h1.mp z)), if_neg q]
    by_cases q2 : a = b
    · rw [if_pos (h2.mpr q2), if_pos q2]; rfl
    · rw [if_neg (fun z => q2 (h2.mp z)), if_neg q2]; rfl
theorem xcmp_r (a b : Int) : xr (xcmp a b) := by
  unfold xcmp
  split
  · decide
  · split <;> decide
theorem xcmp_eq {a b : Int} : xcmp a b = 0 ↔ a = b := by unfold xcmp; split <;> (try split) <;> omega
theorem xcmp_lt {a b : Int} : xcmp a b < 0 ↔ a < b := by unfold xcmp; split <;> (try split) <;> omega
theorem xcmp_le {a b : Int} : xcmp a b ≤ 0 ↔ a ≤ b := by unfold xcmp; split <;> (try split) <;> omega
theorem xcmp_gt {a b : Int} : 0 < xcmp a b ↔ b < a := by unfold xcmp; split <;> (try split) <;> omega
theorem xcmp_ge {a b : Int} : 0 ≤ xcmp a b ↔ b ≤ a := by unfold xcmp; split <;> (try split) <;> omega
section XR2
variable {w : xW} {mi : xM} {TG : xT} {k n pc pc' : Nat} {L st : List xV} {S : xS}
theorem xa_irem {a b : Int} (h : xd mi.2.1 pc .irem 1 pc') (ha : xr a) (hb : xr b) (h0 : b ≠ 0) (kk : X w mi TG k n pc' L (xi (a.tmod b) :: st) S) : X w mi TG k n pc L (xi b :: xi a :: st) S := by
  obtain ⟨hd, rfl⟩ := h
  intro p l e R s m args below meth c H locs cells slots MC MS ls hC hB hR hS hl hL hst
  have h9 := kk p l e R s m args below meth c H locs cells slots MC MS ls hC hB hR hS hl hL (xok_of (v := xi (a.tmod b)) trivial (xok_cons (xok_cons hst).2).2)
  have e9 : Int32.ofInt (a.tdiv b) = Int32.ofInt a / Int32.ofInt b := Int32.ofInt_tdiv (by show (-2147483648 : Int) ≤ a; omega) (by show a ≤ (2147483647 : Int); omega) (by show (-2147483648 : Int) ≤ b; omega) (by show b ≤ (2147483647 : Int); omega)
  have e8 : Int32.ofInt (a.tmod b) = Int32.ofInt a - Int32.ofInt a / Int32.ofInt b * Int32.ofInt b := by
    rw [← e9, ← Int32.ofInt_mul, ← Int32.ofInt_sub, Int.tmod_def, Int.mul_comm]
  rw [List.map_cons, show xc w.1 (xi (a.tmod b)) = _ from congrArg Value.int e8] at h9
  exact lv_irem hC.1 hC.2.1 hd (xn_ne0 hb h0) h9
theorem xa_lrem {a b : Int} (h : xd mi.2.1 pc .lrem 1 pc') (ha : x64 a) (hb : x64 b) (h0 : b ≠ 0) (kk : X w mi TG k n pc' L (xl (a.tmod b) :: st) S) : X w mi TG k n pc L (xl b :: xl a :: st) S := by
  obtain ⟨hd, rfl⟩ := h
  intro p l e R s m args below meth c H locs cells slots MC MS ls hC hB hR hS hl hL hst
  have h9 := kk p l e R s m args below meth c H locs cells slots MC MS ls hC hB hR hS hl hL (xok_of (v := xl (a.tmod b)) trivial (xok_cons (xok_cons hst).2).2)
  have e9 : Int64.ofInt (a.tdiv b) = Int64.ofInt a / Int64.ofInt b := Int64.ofInt_tdiv (by show (-9223372036854775808 : Int) ≤ a; omega) (by show a ≤ (9223372036854775807 : Int); omega) (by show (-9223372036854775808 : Int) ≤ b; omega) (by show b ≤ (9223372036854775807 : Int); omega)
  have e8 : Int64.ofInt (a.tmod b) = Int64.ofInt a - Int64.ofInt a / Int64.ofInt b * Int64.ofInt b := by
    rw [← e9, ← Int64.ofInt_mul, ← Int64.ofInt_sub, Int.tmod_def, Int.mul_comm]
  rw [List.map_cons, show xc w.1 (xl (a.tmod b)) = _ from congrArg Value.long e8] at h9
  exact lv_lrem hC.1 hC.2.1 hd (xn_ne0l hb h0) h9
theorem xa_iand {a b : Int} (h : xd mi.2.1 pc .iand 1 pc') (kk : X w mi TG k n pc' L (xi (Int32.ofInt a &&& Int32.ofInt b).toInt :: st) S) : X w mi TG k n pc L (xi b :: xi a :: st) S := by
  obtain ⟨hd, rfl⟩ := h
  intro p l e R s m args below meth c H locs cells slots MC MS ls hC hB hR hS hl hL hst
  have h9 := kk p l e R s m args below meth c H locs cells slots MC MS ls hC hB hR hS hl hL (xok_of (v := xi (Int32.ofInt a &&& Int32.ofInt b).toInt) trivial (xok_cons (xok_cons hst).2).2)
  rw [List.map_cons, show xc w.1 (xi (Int32.ofInt a &&& Int32.ofInt b).toInt) = Value.int (Int32.ofInt a &&& Int32.ofInt b) from congrArg Value.int (Int32.ofInt_toInt _)] at h9
  exact lv_iand hC.1 hC.2.1 hd h9
theorem xa_ishr {a b : Int} (h : xd mi.2.1 pc .ishr 1 pc') (kk : X w mi TG k n pc' L (xi (Int32.ofInt a >>> (Int32.ofInt b &&& 31)).toInt :: st) S) : X w mi TG k n pc L (xi b :: xi a :: st) S := by
  obtain ⟨hd, rfl⟩ := h
  intro p l e R s m args below meth c H locs cells slots MC MS ls hC hB hR hS hl hL hst
  have h9 := kk p l e R s m args below meth c H locs cells slots MC MS ls hC hB hR hS hl hL (xok_of (v := xi (Int32.ofInt a >>> (Int32.ofInt b &&& 31)).toInt) trivial (xok_cons (xok_cons hst).2).2)
  rw [List.map_cons, show xc w.1 (xi (Int32.ofInt a >>> (Int32.ofInt b &&& 31)).toInt) = Value.int (Int32.ofInt a >>> (Int32.ofInt b &&& 31)) from congrArg Value.int (Int32.ofInt_toInt _)] at h9
  exact lv_ishr hC.1 hC.2.1 hd h9
theorem xa_i2b {a : Int} (h : xd mi.2.1 pc .i2b 1 pc') (kk : X w mi TG k n pc' L (xi (Int32.ofInt a).toInt8.toInt :: st) S) : X w mi TG k n pc L (xi a :: st) S := by
  obtain ⟨hd, rfl⟩ := h
  intro p l e R s m args below meth c H locs cells slots MC MS ls hC hB hR hS hl hL hst
  exact lv_i2b hC.1 hC.2.1 hd (v := Int32.ofInt (Int32.ofInt a).toInt8.toInt) rfl (kk p l e R s m args below meth c H locs cells slots MC MS ls hC hB hR hS hl hL (xok_of (v := xi (Int32.ofInt a).toInt8.toInt) trivial (xok_cons hst).2))
theorem xa_goto {off : Int} {tgt : Nat} (h : xd mi.2.1 pc (.goto off) 3 pc') (ht : (pc : Int) + off = (tgt : Int)) (kk : X w mi TG k n tgt L st S) : X w mi TG k n pc L st S := by
  obtain ⟨hd, rfl⟩ := h
  intro p l e R s m args below meth c H locs cells slots MC MS ls hC hB hR hS hl hL hst
  exact lv_goto hC.1 hC.2.1 hd ht (kk p l e R s m args below meth c H locs cells slots MC MS ls hC hB hR hS hl hL hst)
theorem xa_icmp_eq {a b : Int} {off : Int} {tgt : Nat} (h : xd mi.2.1 pc (.if_icmp .eq off) 3 pc') (ht : (pc : Int) + off = (tgt : Int)) (ha : xr a) (hb : xr b) (kt : a = b → X w mi TG k n tgt L st S) (kf : a ≠ b → X w mi TG k n pc' L st S) : X w mi TG k n pc L (xi b :: xi a :: st) S := by
  obtain ⟨hd, rfl⟩ := h
  intro p l e R s m args below meth c H locs cells slots MC MS ls hC hB hR hS hl hL hst
  have hst2 := (xok_cons (xok_cons hst).2).2
  exact lv_icmp_eq hC.1 hC.2.1 hd ht (fun z => (kt ((xn_eq ha hb).mp z) p l e R s m args below meth c H locs cells slots MC MS ls hC hB hR hS hl hL hst2)) (fun z => (kf (fun q => z ((xn_eq ha hb).mpr q)) p l e R s m args below meth c H locs cells slots MC MS ls hC hB hR hS hl hL hst2))
theorem xa_if_eq {a : Int} {off : Int} {tgt : Nat} (h : xd mi.2.1 pc (.ifCond .eq off) 3 pc') (ht : (pc : Int) + off = (tgt : Int)) (ha : xr a) (kt : a = 0 → X w mi TG k n tgt L st S) (kf : a ≠ 0 → X w mi TG k n pc' L st S) : X w mi TG k n pc L (xi a :: st) S := by
  obtain ⟨hd, rfl⟩ := h
  intro p l e R s m args below meth c H locs cells slots MC MS ls hC hB hR hS hl hL hst
  have hst2 := (xok_cons hst).2
  exact lv_if_eq hC.1 hC.2.1 hd ht (fun z => (kt ((xn_eq0 ha).mp z) p l e R s m args below meth c H locs cells slots MC MS ls hC hB hR hS hl hL hst2)) (fun z => (kf (fun q => z ((xn_eq0 ha).mpr q)) p l e R s m args below meth c H locs cells slots MC MS ls hC hB hR hS hl hL hst2))
theorem xa_icmp_ne {a b : Int} {off : Int} {tgt : Nat} (h : xd mi.2.1 pc (.if_icmp .ne off) 3 pc') (ht : (pc : Int) + off = (tgt : Int)) (ha : xr a) (hb : xr b) (kt : a ≠ b → X w mi TG k n tgt L st S) (kf : a = b → X w mi TG k n pc' L st S) : X w mi TG k n pc L (xi b :: xi a :: st) S := by
  obtain ⟨hd, rfl⟩ := h
  intro p l e R s m args below meth c H locs cells slots MC MS ls hC hB hR hS hl hL hst
  have hst2 := (xok_cons (xok_cons hst).2).2
  exact lv_icmp_ne hC.1 hC.2.1 hd ht (fun z => (kt (fun q => z ((xn_eq ha hb).mpr q)) p l e R s m args below meth c H locs cells slots MC MS ls hC hB hR hS hl hL hst2)) (fun z => (kf ((xn_eq ha hb).mp z) p l e R s m args below meth c H locs cells slots MC MS ls hC hB hR hS hl hL hst2))
theorem xa_if_ne {a : Int} {off : Int} {tgt : Nat} (h : xd mi.2.1 pc (.ifCond .ne off) 3 pc') (ht : (pc : Int) + off = (tgt : Int)) (ha : xr a) (kt : a ≠ 0 → X w mi TG k n tgt L st S) (kf : a = 0 → X w mi TG k n pc' L st S) : X w mi TG k n pc L (xi a :: st) S := by
  obtain ⟨hd, rfl⟩ := h
  intro p l e R s m args below meth c H locs cells slots MC MS ls hC hB hR hS hl hL hst
  have hst2 := (xok_cons hst).2
  exact lv_if_ne hC.1 hC.2.1 hd ht (fun z => (kt (fun q => z ((xn_eq0 ha).mpr q)) p l e R s m args below meth c H locs cells slots MC MS ls hC hB hR hS hl hL hst2)) (fun z => (kf ((xn_eq0 ha).mp z) p l e R s m args below meth c H locs cells slots MC MS ls hC hB hR hS hl hL hst2))
theorem xa_icmp_lt {a b : Int} {off : Int} {tgt : Nat} (h : xd mi.2.1 pc (.if_icmp .lt off) 3 pc') (ht : (pc : Int) + off = (tgt : Int)) (ha : xr a) (hb : xr b) (kt : a < b → X w mi TG k n tgt L st S) (kf : b ≤ a → X w mi TG k n pc' L st S) : X w mi TG k n pc L (xi b :: xi a :: st) S := by
  obtain ⟨hd, rfl⟩ := h
  intro p l e R s m args below meth c H locs cells slots MC MS ls hC hB hR hS hl hL hst
  have hst2 := (xok_cons (xok_cons hst).2).2
  exact lv_icmp_lt hC.1 hC.2.1 hd ht (fun z => (kt ((xn_lt ha hb).mp z) p l e R s m args below meth c H locs cells slots MC MS ls hC hB hR hS hl hL hst2)) (fun z => (kf (by have z2 : ¬ (a < b) := fun q => z ((xn_lt ha hb).mpr q); omega) p l e R s m args below meth c H locs cells slots MC MS ls hC hB hR hS hl hL hst2))
theorem xa_if_lt {a : Int} {off : Int} {tgt : Nat} (h : xd mi.2.1 pc (.ifCond .lt off) 3 pc') (ht : (pc : Int) + off = (tgt : Int)) (ha : xr a) (kt : a < 0 → X w mi TG k n tgt L st S) (kf : 0 ≤ a → X w mi TG k n pc' L st S) : X w mi TG k n pc L (xi a :: st) S := by
  obtain ⟨hd, rfl⟩ := h
  intro p l e R s m args below meth c H locs cells slots MC MS ls hC hB hR hS hl hL hst
  have hst2 := (xok_cons hst).2
  exact lv_if_lt hC.1 hC.2.1 hd ht (fun z => (kt ((xn_lt ha xn_r0).mp (by rw [← xn_0]; exact z)) p l e R s m args below meth c H locs cells slots MC MS ls hC hB hR hS hl hL hst2)) (fun z => (kf (by have z2 : ¬ (a < 0) := fun q => z (by have z3 := (xn_lt ha xn_r0).mpr q; rw [← xn_0] at z3; exact z3); omega) p l e R s m args below meth c H locs cells slots MC MS ls hC hB hR hS hl hL hst2))
theorem xa_icmp_ge {a b : Int} {off : Int} {tgt : Nat} (h : xd mi.2.1 pc (.if_icmp .ge off) 3 pc') (ht : (pc : Int) + off = (tgt : Int)) (ha : xr a) (hb : xr b) (kt : b ≤ a → X w mi TG k n tgt L st S) (kf : a < b → X w mi TG k n pc' L st S) : X w mi TG k n pc L (xi b :: xi a :: st) S := by
  obtain ⟨hd, rfl⟩ := h
  intro p l e R s m args below meth c H locs cells slots MC MS ls hC hB hR hS hl hL hst
  have hst2 := (xok_cons (xok_cons hst).2).2
  exact lv_icmp_ge hC.1 hC.2.1 hd ht (fun z => (kt ((xn_le hb ha).mp z) p l e R s m args below meth c H locs cells slots MC MS ls hC hB hR hS hl hL hst2)) (fun z => (kf (by have z2 : ¬ (b ≤ a) := fun q => z ((xn_le hb ha).mpr q); omega) p l e R s m args below meth c H locs cells slots MC MS ls hC hB hR hS hl hL hst2))
theorem xa_if_ge {a : Int} {off : Int} {tgt : Nat} (h : xd mi.2.1 pc (.ifCond .ge off) 3 pc') (ht : (pc : Int) + off = (tgt : Int)) (ha : xr a) (kt : 0 ≤ a → X w mi TG k n tgt L st S) (kf : a < 0 → X w mi TG k n pc' L st S) : X w mi TG k n pc L (xi a :: st) S := by
  obtain ⟨hd, rfl⟩ := h
  intro p l e R s m args below meth c H locs cells slots MC MS ls hC hB hR hS hl hL hst
  have hst2 := (xok_cons hst).2
  exact lv_if_ge hC.1 hC.2.1 hd ht (fun z => (kt ((xn_le xn_r0 ha).mp (by rw [← xn_0]; exact z)) p l e R s m args below meth c H locs cells slots MC MS ls hC hB hR hS hl hL hst2)) (fun z => (kf (by have z2 : ¬ (0 ≤ a) := fun q => z (by have z3 := (xn_le xn_r0 ha).mpr q; rw [← xn_0] at z3; exact z3); omega) p l e R s m args below meth c H locs cells slots MC MS ls hC hB hR hS hl hL hst2))
theorem xa_icmp_gt {a b : Int} {off : Int} {tgt : Nat} (h : xd mi.2.1 pc (.if_icmp .gt off) 3 pc') (ht : (pc : Int) + off = (tgt : Int)) (ha : xr a) (hb : xr b) (kt : b < a → X w mi TG k n tgt L st S) (kf : a ≤ b → X w mi TG k n pc' L st S) : X w mi TG k n pc L (xi b :: xi a :: st) S := by
  obtain ⟨hd, rfl⟩ := h
  intro p l e R s m args below meth c H locs cells slots MC MS ls hC hB hR hS hl hL hst
  have hst2 := (xok_cons (xok_cons hst).2).2
  exact lv_icmp_gt hC.1 hC.2.1 hd ht (fun z => (kt ((xn_lt hb ha).mp z) p l e R s m args below meth c H locs cells slots MC MS ls hC hB hR hS hl hL hst2)) (fun z => (kf (by have z2 : ¬ (b < a) := fun q => z ((xn_lt hb ha).mpr q); omega) p l e R s m args below meth c H locs cells slots MC MS ls hC hB hR hS hl hL hst2))
theorem xa_if_gt {a : Int} {off : Int} {tgt : Nat} (h : xd mi.2.1 pc (.ifCond .gt off) 3 pc') (ht : (pc : Int) + off = (tgt : Int)) (ha : xr a) (kt : 0 < a → X w mi TG k n tgt L st S) (kf : a ≤ 0 → X w mi TG k n pc' L st S) : X w mi TG k n pc L (xi a :: st) S := by
  obtain ⟨hd, rfl⟩ := h
  intro p l e R s m args below meth c H locs cells slots MC MS ls hC hB hR hS hl hL hst
  have hst2 := (xok_cons hst).2
  exact lv_if_gt hC.1 hC.2.1 hd ht (fun z => (kt ((xn_lt xn_r0 ha).mp (by rw [← xn_0]; exact z)) p l e R s m args below meth c H locs cells slots MC MS ls hC hB hR hS hl hL hst2)) (fun z => (kf (by have z2 : ¬ (0 < a) := fun q => z (by have z3 := (xn_lt xn_r0 ha).mpr q; rw [← xn_0] at z3; exact z3); omega) p l e R s m args below meth c H locs cells slots MC MS ls hC hB hR hS hl hL hst2))
theorem xa_icmp_le {a b : Int} {off : Int} {tgt : Nat} (h : xd mi.2.1 pc (.if_icmp .le off) 3 pc') (ht : (pc : Int) + off = (tgt : Int)) (ha : xr a) (hb : xr b) (kt : a ≤ b → X w mi TG k n tgt L st S) (kf : b < a → X w mi TG k n pc' L st S) : X w mi TG k n pc L (xi b :: xi a :: st) S := by
  obtain ⟨hd, rfl⟩ := h
  intro p l e R s m args below meth c H locs cells slots MC MS ls hC hB hR hS hl hL hst
  have hst2 := (xok_cons (xok_cons hst).2).2
  exact lv_icmp_le hC.1 hC.2.1 hd ht (fun z => (kt ((xn_le ha hb).mp z) p l e R s m args below meth c H locs cells slots MC MS ls hC hB hR hS hl hL hst2)) (fun z => (kf (by have z2 : ¬ (a ≤ b) := fun q => z ((xn_le ha hb).mpr q); omega) p l e R s m args below meth c H locs cells slots MC MS ls hC hB hR hS hl hL hst2))
theorem xa_if_le {a : Int} {off : Int} {tgt : Nat} (h : xd mi.2.1 pc (.ifCond .le off) 3 pc') (ht : (pc : Int) + off = (tgt : Int)) (ha : xr a) (kt : a ≤ 0 → X w mi TG k n tgt L st S) (kf : 0 < a → X w mi TG k n pc' L st S) : X w mi TG k n pc L (xi a :: st) S := by
  obtain ⟨hd, rfl⟩ := h
  intro p l e R s m args below meth c H locs cells slots MC MS ls hC hB hR hS hl hL hst
  have hst2 := (xok_cons hst).2
  exact lv_if_le hC.1 hC.2.1 hd ht (fun z => (kt ((xn_le ha xn_r0).mp (by rw [← xn_0]; exact z)) p l e R s m args below meth c H locs cells slots MC MS ls hC hB hR hS hl hL hst2)) (fun z => (kf (by have z2 : ¬ (a ≤ 0) := fun q => z (by have z3 := (xn_le ha xn_r0).mpr q; rw [← xn_0] at z3; exact z3); omega) p l e R s m args below meth c H locs cells slots MC MS ls hC hB hR hS hl hL hst2))
theorem xa_lcmp {a b : Int} (h : xd mi.2.1 pc .lcmp 1 pc') (ha : x64 a) (hb : x64 b) (kk : X w mi TG k n pc' L (xi (xcmp a b) :: st) S) : X w mi TG k n pc L (xl b :: xl a :: st) S := by
  obtain ⟨hd, rfl⟩ := h
  intro p l e R s m args below meth c H locs cells slots MC MS ls hC hB hR hS hl hL hst
  have h9 := kk p l e R s m args below meth c H locs cells slots MC MS ls hC hB hR hS hl hL (xok_of (v := xi (xcmp a b)) trivial (xok_cons (xok_cons hst).2).2)
  rw [List.map_cons, show xc w.1 (xi (xcmp a b)) = Value.int (lg_cmp (Int64.ofInt a) (Int64.ofInt b)) from congrArg Value.int (xn_cmp ha hb).symm] at h9
  exact W.lcmp hC.1 hC.2.1 hd h9
theorem xa_ifc_eq {a b : Int} {off : Int} {tgt : Nat} (h : xd mi.2.1 pc (.ifCond .eq off) 3 pc') (ht : (pc : Int) + off = (tgt : Int)) (kt : a = b → X w mi TG k n tgt L st S) (kf : a ≠ b → X w mi TG k n pc' L st S) : X w mi TG k n pc L (xi (xcmp a b) :: st) S :=
  xa_if_eq h ht (xcmp_r a b) (fun z => (kt (xcmp_eq.mp z))) (fun z => (kf (fun q => z (xcmp_eq.mpr q))))
theorem xa_ifc_ne {a b : Int} {off : Int} {tgt : Nat} (h : xd mi.2.1 pc (.ifCond .ne off) 3 pc') (ht : (pc : Int) + off = (tgt : Int)) (kt : a ≠ b → X w mi TG k n tgt L st S) (kf : a = b → X w mi TG k n pc' L st S) : X w mi TG k n pc L (xi (xcmp a b) :: st) S :=
  xa_if_ne h ht (xcmp_r a b) (fun z => (kt (fun q => z (xcmp_eq.mpr q)))) (fun z => (kf (xcmp_eq.mp z)))
theorem xa_ifc_lt {a b : Int} {off : Int} {tgt : Nat} (h : xd mi.2.1 pc (.ifCond .lt off) 3 pc') (ht : (pc : Int) + off = (tgt : Int)) (kt : a < b → X w mi TG k n tgt L st S) (kf : b ≤ a → X w mi TG k n pc' L st S) : X w mi TG k n pc L (xi (xcmp a b) :: st) S :=
  xa_if_lt h ht (xcmp_r a b) (fun z => (kt (xcmp_lt.mp z))) (fun z => (kf (by have z2 : ¬ (a < b) := fun q => absurd (xcmp_lt.mpr q) (by omega); omega)))
theorem xa_ifc_ge {a b : Int} {off : Int} {tgt : Nat} (h : xd mi.2.1 pc (.ifCond .ge off) 3 pc') (ht : (pc : Int) + off = (tgt : Int)) (kt : b ≤ a → X w mi TG k n tgt L st S) (kf : a < b → X w mi TG k n pc' L st S) : X w mi TG k n pc L (xi (xcmp a b) :: st) S :=
  xa_if_ge h ht (xcmp_r a b) (fun z => (kt (xcmp_ge.mp z))) (fun z => (kf (by have z2 : ¬ (b ≤ a) := fun q => absurd (xcmp_ge.mpr q) (by omega); omega)))
theorem xa_ifc_gt {a b : Int} {off : Int} {tgt : Nat} (h : xd mi.2.1 pc (.ifCond .gt off) 3 pc') (ht : (pc : Int) + off = (tgt : Int)) (kt : b < a → X w mi TG k n tgt L st S) (kf : a ≤ b → X w mi TG k n pc' L st S) : X w mi TG k n pc L (xi (xcmp a b) :: st) S :=
  xa_if_gt h ht (xcmp_r a b) (fun z => (kt (xcmp_gt.mp z))) (fun z => (kf (by have z2 : ¬ (b < a) := fun q => absurd (xcmp_gt.mpr q) (by omega); omega)))
theorem xa_ifc_le {a b : Int} {off : Int} {tgt : Nat} (h : xd mi.2.1 pc (.ifCond .le off) 3 pc') (ht : (pc : Int) + off = (tgt : Int)) (kt : a ≤ b → X w mi TG k n tgt L st S) (kf : b < a → X w mi TG k n pc' L st S) : X w mi TG k n pc L (xi (xcmp a b) :: st) S :=
  xa_if_le h ht (xcmp_r a b) (fun z => (kt (xcmp_le.mp z))) (fun z => (kf (by have z2 : ¬ (a ≤ b) := fun q => absurd (xcmp_le.mpr q) (by omega); omega)))
theorem xa_ifnullP {x y : Nat} {off : Int} (h : xd mi.2.1 pc (.ifnull off) 3 pc') (kk : X w mi TG k n pc' L st S) : X w mi TG k n pc L (xp x y :: st) S := by
  obtain ⟨hd, rfl⟩ := h
  intro p l e R s m args below meth c H locs cells slots MC MS ls hC hB hR hS hl hL hst
  exact lv_ifnull hC.1 hC.2.1 hd (kk p l e R s m args below meth c H locs cells slots MC MS ls hC hB hR hS hl hL (xok_cons hst).2)
theorem xa_ifnullN {off : Int} {tgt : Nat} (h : xd mi.2.1 pc (.ifnull off) 3 pc') (ht : (pc : Int) + off = (tgt : Int)) (kk : X w mi TG k n tgt L st S) : X w mi TG k n pc L (xv .null :: st) S := by
  obtain ⟨hd, rfl⟩ := h
  intro p l e R s m args below meth c H locs cells slots MC MS ls hC hB hR hS hl hL hst
  exact lv_ifnullN hC.1 hC.2.1 hd ht (kk p l e R s m args below meth c H locs cells slots MC MS ls hC hB hR hS hl hL (xok_cons hst).2)
theorem xa_ifnonnullP {x y : Nat} {off : Int} {tgt : Nat} (h : xd mi.2.1 pc (.ifnonnull off) 3 pc') (ht : (pc : Int) + off = (tgt : Int)) (kk : X w mi TG k n tgt L st S) : X w mi TG k n pc L (xp x y :: st) S := by
  obtain ⟨hd, rfl⟩ := h
  intro p l e R s m args below meth c H locs cells slots MC MS ls hC hB hR hS hl hL hst
  exact lv_ifnonnull hC.1 hC.2.1 hd ht (kk p l e R s m args below meth c H locs cells slots MC MS ls hC hB hR hS hl hL (xok_cons hst).2)
theorem xa_ifnonnullN {off : Int} (h : xd mi.2.1 pc (.ifnonnull off) 3 pc') (kk : X w mi TG k n pc' L st S) : X w mi TG k n pc L (xv .null :: st) S := by
  obtain ⟨hd, rfl⟩ := h
  intro p l e R s m args below meth c H locs cells slots MC MS ls hC hB hR hS hl hL hst
  exact lv_ifnonnullN hC.1 hC.2.1 hd (kk p l e R s m args below meth c H locs cells slots MC MS ls hC hB hR hS hl hL (xok_cons hst).2)
theorem xn_cat1 {ad : Nat → Nat → Nat} {v : xV} (h : xcat2 v = false) : (xc ad v).category = 1 := by
  rcases lv_cat (xc ad v) with q | q
  · exact q
  · exact absurd q (xcat_of h)
theorem xa_dup {v : xV} (h : xd mi.2.1 pc .dup 1 pc') (hv : xcat2 v = false) (kk : X w mi TG k n pc' L (v :: v :: st) S) : X w mi TG k n pc L (v :: st) S := by
  obtain ⟨hd, rfl⟩ := h
  intro p l e R s m args below meth c H locs cells slots MC MS ls hC hB hR hS hl hL hst
  exact lv_dup hC.1 hC.2.1 hd (xn_cat1 hv) (kk p l e R s m args below meth c H locs cells slots MC MS ls hC hB hR hS hl hL (xok_of (xok_cons hst).1 hst))
theorem xa_dup2 {u v : xV} (h : xd mi.2.1 pc .dup2 1 pc') (hu : xcat2 u = false) (hv : xcat2 v = false) (kk : X w mi TG k n pc' L (u :: v :: u :: v :: st) S) : X w mi TG k n pc L (u :: v :: st) S := by
  obtain ⟨hd, rfl⟩ := h
  intro p l e R s m args below meth c H locs cells slots MC MS ls hC hB hR hS hl hL hst
  exact lv_dup2_11 hC.1 hC.2.1 hd (xn_cat1 hu) (xn_cat1 hv) (kk p l e R s m args below meth c H locs cells slots MC MS ls hC hB hR hS hl hL (xok_of (xok_cons hst).1 (xok_of (xok_cons (xok_cons hst).2).1 hst)))
theorem xa_pop {v : xV} (h : xd mi.2.1 pc .pop 1 pc') (hv : xcat2 v = false) (kk : X w mi TG k n pc' L st S) : X w mi TG k n pc L (v :: st) S := by
  obtain ⟨hd, rfl⟩ := h
  intro p l e R s m args below meth c H locs cells slots MC MS ls hC hB hR hS hl hL hst
  exact lv_pop hC.1 hC.2.1 hd (xn_cat1 hv) (kk p l e R s m args below meth c H locs cells slots MC MS ls hC hB hR hS hl hL (xok_cons hst).2)
/-- every number of the store is in its range -/
theorem xa_wr (kk : xWR S → X w mi TG k n pc L st S) : X w mi TG k n pc L st S := by
  intro p l e R s m args below meth c H locs cells slots MC MS ls hC hB hR hS hl hL hst
  exact kk hR.2.2 p l e R s m args below meth c H locs cells slots MC MS ls hC hB hR hS hl hL hst
theorem xa_okL {i x y : Nat} (hi : L[i]? = some (xp x y)) (kk : xval x y = true → X w mi TG k n pc L st S) : X w mi TG k n pc L st S := by
  intro p l e R s m args below meth c H locs cells slots MC MS ls hC hB hR hS hl hL hst
  exact kk (xok_at hL hi) p l e R s m args below meth c H locs cells slots MC MS ls hC hB hR hS hl hL hst
theorem xa_okS {i x y : Nat} (hi : st[i]? = some (xp x y)) (kk : xval x y = true → X w mi TG k n pc L st S) : X w mi TG k n pc L st S := by
  intro p l e R s m args below meth c H locs cells slots MC MS ls hC hB hR hS hl hL hst
  exact kk (xok_at hst hi) p l e R s m args below meth c H locs cells slots MC MS ls hC hB hR hS hl hL hst
/-! fields -/
theorem xa_getG {x y f ci index N : Nat} {v : xV} {C : String} {T : u_T} {fs : List Value} (h : xd mi.2.1 pc (.getfield index) 3 pc') (hw : Cond.fieldLink mi.1 index (T f).1 (T f).2.1 (T f).2.2.1 ∈ xtb) (hin : ∀ w ∈ u_ws C T N, w ∈ xtb) (hc : vwCl[ci]? = some (C, T, N)) (hf : f < N) (hx : x < 50)
    (hce : xce w x y (S x y) = .inr (ci, fs)) (hv : fs[f]? = some (xc w.1 v)) (hok : xval x y = true → xok v) (kk : X w mi TG k n pc' L (v :: st) S) : X w mi TG k n pc L (xp x y :: st) S := by
  obtain ⟨hd, rfl⟩ := h
  intro p l e R s m args below meth c H locs cells slots MC MS ls hC hB hR hS hl hL hst
  have hxy : xval x y = true := (xok_cons hst).1
  obtain ⟨i, -, hi⟩ := xwl_at hxy hx
  exact va_get (D := w.2.1) (cl := vwCl) (ws := xwl w S) (ref := (T f).1) hC.1 hC.2.1 hC.2.2.2.2.2.1 hin hC.2.2.2.2.1 hC.2.2.2.2.2.2.2.2.2.2.1 hR.1 i ((hi w S).trans (by rw [hce])) hc f hf (hC.2.2.2.2.2.1 _ hw) (fun _ h9 => h9) hv hd (kk p l e R s m args below meth c H locs cells slots MC MS ls hC hB hR hS hl hL (xok_of (hok hxy) (xok_cons hst).2))
theorem xa_putG {x y f ci index N : Nat} {v : Int} {u : xV} {ty : FieldType} {ty0 : Nat → FieldType} {C : String} {T : u_T} {fs : List Value} (h : xd mi.2.1 pc (.putfield index) 3 pc') (hw : Cond.fieldLink mi.1 index (T f).1 (T f).2.1 (T f).2.2.1 ∈ xtb) (hin : ∀ w ∈ u_ws C T N, w ∈ xtb) (hty : ∀ k, k < N → parseFieldDescriptor (T k).2.2.1 = some (ty0 k)) (hnm : ∀ a, a < N → ∀ b, b < N → a ≠ b → (T a).2.1 ≠ (T b).2.1) (hc : vwCl[ci]? = some (C, T, N)) (hf : f < N) (hx : x < 50)
    (hce : xce w x y (S x y) = .inr (ci, fs)) (hce2 : xce w x y (up S x y f v x y) = .inr (ci, fs.set f (xc w.1 u))) (hfin : (T f).2.2.2 = false) (hdt : parseFieldDescriptor (T f).2.2.1 = some ty) (hn : narrow ty (xc w.1 u) = xc w.1 u) (hfit : fits ty (xc w.1 u) = true) (hl0 : f < fs.length) (h64 : x64 v) (h32 : xlng x f = false → xr v)
    (kk : X w mi TG k n pc' L st (up S x y f v)) : X w mi TG k n pc L (u :: xp x y :: st) S := by
  obtain ⟨hd, rfl⟩ := h
  intro p l e R s m args below meth c H locs cells slots MC MS ls hC hB hR hS hl hL hst
  have hst2 := (xok_cons hst).2
  have hxy : xval x y = true := (xok_cons hst2).1
  obtain ⟨i, hi0, hi⟩ := xwl_at hxy hx
  refine va_put (D := w.2.1) (cl := vwCl) (ws := xwl w S) (ref := (T f).1) hC.1 hC.2.1 hC.2.2.2.2.2.1 hin ty0 hty hnm hC.2.2.2.2.1 hC.2.2.2.2.2.2.2.2.2.2.1 hR.1 hR.2.1 hS i ((hi w S).trans (by rw [hce])) hc f hf (hC.2.2.2.2.2.1 _ hw) (fun _ h9 => h9) hfin hdt hn hfit hl0 hd (fun H1 locs1 hP1 hD1 hS1 => ?_)
  rw [← hce2] at hP1 hD1
  exact kk p l e R s m args below meth c H1 locs1 cells slots MC MS ls hC hB (xRep.upd hi0 (fun k' j' h9 => up_oth h9) (hR.2.2.up x y f h64 h32) hP1 hD1) hS1 hl hL (xok_cons hst2).2
/-! arrays -/
theorem xa_iald {x y N : Nat} {a : Int} (h : xd mi.2.1 pc .iaload 1 pc') (hx : x < 50) (hce : ∀ F, xce w x y F = .inl (w.2.2.1 0, (N, .inl fun f => Int32.ofInt (F f)))) (ha : 0 ≤ a ∧ a < N) (hN : N < 2147483648) (kk : X w mi TG k n pc' L (xi (S x y a.toNat) :: st) S) : X w mi TG k n pc L (xi a :: xp x y :: st) S := by
  obtain ⟨hd, rfl⟩ := h
  intro p l e R s m args below meth c H locs cells slots MC MS ls hC hB hR hS hl hL hst
  have hst2 := (xok_cons hst).2
  have hxy : xval x y = true := (xok_cons hst2).1
  obtain ⟨i, -, hi⟩ := xwl_at hxy hx
  have h9 := kk p l e R s m args below meth c H locs cells slots MC MS ls hC hB hR hS hl hL (xok_of (v := xi (S x y a.toNat)) trivial (xok_cons hst2).2)
  rw [← xn_nat (a := a) (by omega) ha.1] at h9
  exact va_iald (f := fun f => Int32.ofInt (S x y f)) (D := w.2.1) (cl := vwCl) (ws := xwl w S) (tys := xtys w) hC.1 hC.2.1 hC.2.2.2.2.2.2.2.2.2.2.1 hR.1 i 0 ((hi w S).trans (by rw [hce])) rfl (xn_in ha hN) hd h9
theorem xa_iast {x y N : Nat} {a v : Int} (h : xd mi.2.1 pc .iastore 1 pc') (hx : x < 50) (hce : ∀ F, xce w x y F = .inl (w.2.2.1 0, (N, .inl fun f => Int32.ofInt (F f)))) (ha : 0 ≤ a ∧ a < N) (hN : N < 2147483648) (hv : xr v)  (kk : X w mi TG k n pc' L st (up S x y a.toNat v)) : X w mi TG k n pc L (xi v :: xi a :: xp x y :: st) S := by
  obtain ⟨hd, rfl⟩ := h
  intro p l e R s m args below meth c H locs cells slots MC MS ls hC hB hR hS hl hL hst
  have hst2 := (xok_cons (xok_cons hst).2).2
  have hxy : xval x y = true := (xok_cons hst2).1
  obtain ⟨i, hi0, hi⟩ := xwl_at hxy hx
  refine va_iast (f := fun f => Int32.ofInt (S x y f)) (D := w.2.1) (cl := vwCl) (ws := xwl w S) (tys := xtys w) hC.1 hC.2.1 hC.2.2.2.2.2.2.2.2.2.2.1 hR.1 hR.2.1 hS i 0 ((hi w S).trans (by rw [hce])) rfl (xn_in ha hN) hd (fun H1 locs1 hP1 hD1 hS1 => ?_)
  have e9 : (Sum.inl (w.2.2.1 0, (N, .inl (upd (fun f => Int32.ofInt (S x y f)) (Int32.ofInt a).toNatClampNeg (Int32.ofInt v)))) : va_E) = xce w x y (up S x y a.toNat v x y) := by
    rw [hce, up_row]
    refine congrArg (fun z => (Sum.inl (w.2.2.1 0, (N, .inl (z))) : va_E)) ?_
    funext q
    show (if q = (Int32.ofInt a).toNatClampNeg then Int32.ofInt v else Int32.ofInt (S x y q)) = Int32.ofInt (if q = a.toNat then v else S x y q)
    rw [xn_nat (a := a) (by omega) ha.1]
    by_cases hq : q = a.toNat
    · rw [if_pos hq, if_pos hq]
    · rw [if_neg hq, if_neg hq]
  rw [e9] at hP1 hD1
  exact kk p l e R s m args below meth c H1 locs1 cells slots MC MS ls hC hB (xRep.upd hi0 (fun k' j' h9 => up_oth h9) (hR.2.2.up x y a.toNat (by omega) (fun _ => hv)) hP1 hD1) hS1 hl hL (xok_cons hst2).2
theorem xa_zald {x y N : Nat} {a : Int} (h : xd mi.2.1 pc .baload 1 pc') (hx : x < 50) (hce : ∀ F, xce w x y F = .inl (w.2.2.1 2, (N, .inl fun f => Int32.ofInt (F f)))) (ha : 0 ≤ a ∧ a < N) (hN : N < 2147483648) (kk : X w mi TG k n pc' L (xi (S x y a.toNat) :: st) S) : X w mi TG k n pc L (xi a :: xp x y :: st) S := by
  obtain ⟨hd, rfl⟩ := h
  intro p l e R s m args below meth c H locs cells slots MC MS ls hC hB hR hS hl hL hst
  have hst2 := (xok_cons hst).2
  have hxy : xval x y = true := (xok_cons hst2).1
  obtain ⟨i, -, hi⟩ := xwl_at hxy hx
  have h9 := kk p l e R s m args below meth c H locs cells slots MC MS ls hC hB hR hS hl hL (xok_of (v := xi (S x y a.toNat)) trivial (xok_cons hst2).2)
  rw [← xn_nat (a := a) (by omega) ha.1] at h9
  exact va_zald (f := fun f => Int32.ofInt (S x y f)) (D := w.2.1) (cl := vwCl) (ws := xwl w S) (tys := xtys w) hC.1 hC.2.1 hC.2.2.2.2.2.2.2.2.2.2.1 hR.1 i 2 ((hi w S).trans (by rw [hce])) rfl (xn_in ha hN) hd h9
theorem xa_zast {x y N : Nat} {a v : Int} (h : xd mi.2.1 pc .bastore 1 pc') (hx : x < 50) (hce : ∀ F, xce w x y F = .inl (w.2.2.1 2, (N, .inl fun f => Int32.ofInt (F f)))) (ha : 0 ≤ a ∧ a < N) (hN : N < 2147483648) (hv : v = 0 ∨ v = 1)  (kk : X w mi TG k n pc' L st (up S x y a.toNat v)) : X w mi TG k n pc L (xi v :: xi a :: xp x y :: st) S := by
  obtain ⟨hd, rfl⟩ := h
  intro p l e R s m args below meth c H locs cells slots MC MS ls hC hB hR hS hl hL hst
  have hst2 := (xok_cons (xok_cons hst).2).2
  have hxy : xval x y = true := (xok_cons hst2).1
  obtain ⟨i, hi0, hi⟩ := xwl_at hxy hx
  have hnv : vp_nar .boolean (Int32.ofInt v) = Int32.ofInt v := by rcases hv with rfl | rfl <;> decide
  refine va_zast (f := fun f => Int32.ofInt (S x y f)) (D := w.2.1) (cl := vwCl) (ws := xwl w S) (tys := xtys w) hC.1 hC.2.1 hC.2.2.2.2.2.2.2.2.2.2.1 hR.1 hR.2.1 hS i 2 ((hi w S).trans (by rw [hce])) rfl (xn_in ha hN) hd (fun H1 locs1 hP1 hD1 hS1 => ?_)
  have e9 : (Sum.inl (w.2.2.1 2, (N, .inl (upd (fun f => Int32.ofInt (S x y f)) (Int32.ofInt a).toNatClampNeg (vp_nar .boolean (Int32.ofInt v))))) : va_E) = xce w x y (up S x y a.toNat v x y) := by
    rw [hce, up_row]
    refine congrArg (fun z => (Sum.inl (w.2.2.1 2, (N, .inl (z))) : va_E)) ?_
    funext q
    rw [hnv]; show (if q = (Int32.ofInt a).toNatClampNeg then Int32.ofInt v else Int32.ofInt (S x y q)) = Int32.ofInt (if q = a.toNat then v else S x y q)
    rw [xn_nat (a := a) (by omega) ha.1]
    by_cases hq : q = a.toNat
    · rw [if_pos hq, if_pos hq]
    · rw [if_neg hq, if_neg hq]
  rw [e9] at hP1 hD1
  exact kk p l e R s m args below meth c H1 locs1 cells slots MC MS ls hC hB (xRep.upd hi0 (fun k' j' h9 => up_oth h9) (hR.2.2.up x y a.toNat (by omega) (fun _ => by omega)) hP1 hD1) hS1 hl hL (xok_cons hst2).2
theorem xa_bald {x y N : Nat} {a : Int} (h : xd mi.2.1 pc .baload 1 pc') (hx : x < 50) (hce : ∀ F, xce w x y F = .inl (w.2.2.1 3, (N, .inl fun f => Int32.ofInt (F f)))) (ha : 0 ≤ a ∧ a < N) (hN : N < 2147483648) (kk : X w mi TG k n pc' L (xi (S x y a.toNat) :: st) S) : X w mi TG k n pc L (xi a :: xp x y :: st) S := by
  obtain ⟨hd, rfl⟩ := h
  intro p l e R s m args below meth c H locs cells slots MC MS ls hC hB hR hS hl hL hst
  have hst2 := (xok_cons hst).2
  have hxy : xval x y = true := (xok_cons hst2).1
  obtain ⟨i, -, hi⟩ := xwl_at hxy hx
  have h9 := kk p l e R s m args below meth c H locs cells slots MC MS ls hC hB hR hS hl hL (xok_of (v := xi (S x y a.toNat)) trivial (xok_cons hst2).2)
  rw [← xn_nat (a := a) (by omega) ha.1] at h9
  exact va_bald (f := fun f => Int32.ofInt (S x y f)) (D := w.2.1) (cl := vwCl) (ws := xwl w S) (tys := xtys w) hC.1 hC.2.1 hC.2.2.2.2.2.2.2.2.2.2.1 hR.1 i 3 ((hi w S).trans (by rw [hce])) rfl (xn_in ha hN) hd h9
theorem xa_bast {x y N : Nat} {a v : Int} (h : xd mi.2.1 pc .bastore 1 pc') (hx : x < 50) (hce : ∀ F, xce w x y F = .inl (w.2.2.1 3, (N, .inl fun f => Int32.ofInt (F f)))) (ha : 0 ≤ a ∧ a < N) (hN : N < 2147483648) (hv : -128 ≤ v ∧ v < 128)  (kk : X w mi TG k n pc' L st (up S x y a.toNat v)) : X w mi TG k n pc L (xi v :: xi a :: xp x y :: st) S := by
  obtain ⟨hd, rfl⟩ := h
  intro p l e R s m args below meth c H locs cells slots MC MS ls hC hB hR hS hl hL hst
  have hst2 := (xok_cons (xok_cons hst).2).2
  have hxy : xval x y = true := (xok_cons hst2).1
  obtain ⟨i, hi0, hi⟩ := xwl_at hxy hx
  have hnv : vp_nar .byte (Int32.ofInt v) = Int32.ofInt v := by
    rw [vp_nar_byte, Int32.toInt8_ofInt]
    refine Int32.toInt_inj.mp ?_
    rw [Int8.toInt_toInt32, xn_ti (by omega)]
    exact Int8.toInt_ofInt_of_le (by omega) (by omega)
  refine va_bast (f := fun f => Int32.ofInt (S x y f)) (D := w.2.1) (cl := vwCl) (ws := xwl w S) (tys := xtys w) hC.1 hC.2.1 hC.2.2.2.2.2.2.2.2.2.2.1 hR.1 hR.2.1 hS i 3 ((hi w S).trans (by rw [hce])) rfl (xn_in ha hN) hd (fun H1 locs1 hP1 hD1 hS1 => ?_)
  have e9 : (Sum.inl (w.2.2.1 3, (N, .inl (upd (fun f => Int32.ofInt (S x y f)) (Int32.ofInt a).toNatClampNeg (vp_nar .byte (Int32.ofInt v))))) : va_E) = xce w x y (up S x y a.toNat v x y) := by
    rw [hce, up_row]
    refine congrArg (fun z => (Sum.inl (w.2.2.1 3, (N, .inl (z))) : va_E)) ?_
    funext q
    rw [hnv]; show (if q = (Int32.ofInt a).toNatClampNeg then Int32.ofInt v else Int32.ofInt (S x y q)) = Int32.ofInt (if q = a.toNat then v else S x y q)
    rw [xn_nat (a := a) (by omega) ha.1]
    by_cases hq : q = a.toNat
    · rw [if_pos hq, if_pos hq]
    · rw [if_neg hq, if_neg hq]
  rw [e9] at hP1 hD1
  exact kk p l e R s m args below meth c H1 locs1 cells slots MC MS ls hC hB (xRep.upd hi0 (fun k' j' h9 => up_oth h9) (hR.2.2.up x y a.toNat (by omega) (fun _ => by omega)) hP1 hD1) hS1 hl hL (xok_cons hst2).2
theorem xa_aald {x y N t x2 : Nat} {C : String} {a : Int} {g : Nat → Nat} (h : xd mi.2.1 pc .aaload 1 pc') (hx : x < 50) (ht : (xtys w)[t]? = some (w.2.2.1 t, .object C)) (hce : ∀ F, xce w x y F = .inl (w.2.2.1 t, (N, .inr (.inr (.inr (.inr fun f => some (w.1 x2 (g f)))))))) (ha : 0 ≤ a ∧ a < N) (hN : N < 2147483648) (hok : xval x y = true → xval x2 (g a.toNat) = true) (kk : X w mi TG k n pc' L (xp x2 (g a.toNat) :: st) S) : X w mi TG k n pc L (xi a :: xp x y :: st) S := by
  obtain ⟨hd, rfl⟩ := h
  intro p l e R s m args below meth c H locs cells slots MC MS ls hC hB hR hS hl hL hst
  have hst2 := (xok_cons hst).2
  have hxy : xval x y = true := (xok_cons hst2).1
  obtain ⟨i, -, hi⟩ := xwl_at hxy hx
  have h9 := kk p l e R s m args below meth c H locs cells slots MC MS ls hC hB hR hS hl hL (xok_of (v := xp x2 (g a.toNat)) (hok hxy) (xok_cons hst2).2)
  rw [← xn_nat (a := a) (by omega) ha.1] at h9
  exact va_aldq (f := fun f => some (w.1 x2 (g f))) (D := w.2.1) (cl := vwCl) (ws := xwl w S) (tys := xtys w) hC.1 hC.2.1 hC.2.2.2.2.2.2.2.2.2.2.1 hR.1 i t ((hi w S).trans (by rw [hce])) ht (xn_in ha hN) hd h9
end XR2
