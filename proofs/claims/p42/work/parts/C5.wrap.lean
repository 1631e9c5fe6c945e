/-! the law: what it asks the class -/
section XL5
variable {w : xW} {mi : xM} {TG : xT} {k n pc pc' : Nat} {L st : List xV} {S : xS}
theorem xt_c0 {E : String} {a b c d : Nat} {t : List (Nat × Nat × Nat × Nat)} (ht : mi.2.2.2.2.1 = (a, b, c, d) :: t) (hx : (decide (a ≤ pc) && decide (pc < b)) = true) (h0 : d ≠ 0) (hlink : Cond.classLink mi.1 d E ∈ xtb) (hcast : (E, E) ∈ xcast) (kk : ∀ q, X w mi TG k n c L [xv (.ref q)] S) : XT w mi TG k n pc L st E S :=
  xt_catch [] ⟨a, b, c, d⟩ (tableOf t) (by rw [ht]; rfl) (fun z hz => nomatch hz) hx h0 hlink hcast kk
theorem xt_c1 {E E1 : String} {a1 b1 c1 d1 a b c d : Nat} {t : List (Nat × Nat × Nat × Nat)} (ht : mi.2.2.2.2.1 = (a1, b1, c1, d1) :: (a, b, c, d) :: t) (h1 : d1 ≠ 0) (hl1 : Cond.classLink mi.1 d1 E1 ∈ xtb) (hn1 : (E, E1) ∈ xnot) (hx : (decide (a ≤ pc) && decide (pc < b)) = true) (h0 : d ≠ 0) (hlink : Cond.classLink mi.1 d E ∈ xtb) (hcast : (E, E) ∈ xcast) (kk : ∀ q, X w mi TG k n c L [xv (.ref q)] S) : XT w mi TG k n pc L st E S :=
  xt_catch [⟨a1, b1, c1, d1⟩] ⟨a, b, c, d⟩ (tableOf t) (by rw [ht]; rfl) (fun z hz => by rw [List.mem_singleton.mp hz]; exact Or.inr ⟨h1, E1, hl1, hn1⟩) hx h0 hlink hcast kk
theorem xt_c2 {E E1 E2 : String} {a1 b1 c1 d1 a2 b2 c2 d2 a b c d : Nat} {t : List (Nat × Nat × Nat × Nat)} (ht : mi.2.2.2.2.1 = (a1, b1, c1, d1) :: (a2, b2, c2, d2) :: (a, b, c, d) :: t) (h1 : d1 ≠ 0) (hl1 : Cond.classLink mi.1 d1 E1 ∈ xtb) (hn1 : (E, E1) ∈ xnot) (h2 : d2 ≠ 0) (hl2 : Cond.classLink mi.1 d2 E2 ∈ xtb) (hn2 : (E, E2) ∈ xnot) (hx : (decide (a ≤ pc) && decide (pc < b)) = true) (h0 : d ≠ 0) (hlink : Cond.classLink mi.1 d E ∈ xtb) (hcast : (E, E) ∈ xcast) (kk : ∀ q, X w mi TG k n c L [xv (.ref q)] S) : XT w mi TG k n pc L st E S :=
  xt_catch [⟨a1, b1, c1, d1⟩, ⟨a2, b2, c2, d2⟩] ⟨a, b, c, d⟩ (tableOf t) (by rw [ht]; rfl) (fun z hz => by
    rcases List.mem_cons.mp hz with rfl | hz
    · exact Or.inr ⟨h1, E1, hl1, hn1⟩
    · rw [List.mem_singleton.mp hz]; exact Or.inr ⟨h2, E2, hl2, hn2⟩) hx h0 hlink hcast kk
end XL5
theorem lc49 : Cond.classLink RL 49 "java/lang/IllegalArgumentException" ∈ xtb := xtb_in (i := 353) (by decide +kernel) (by decide +kernel)
theorem lc51 : Cond.classLink RL 51 "java/lang/IllegalStateException" ∈ xtb := xtb_in (i := 460) (by decide +kernel) (by decide +kernel)
theorem lc56 : Cond.classLink RL 56 "java/lang/IndexOutOfBoundsException" ∈ xtb := xtb_in (i := 496) (by decide +kernel) (by decide +kernel)
def ownP (p : Nat) (N : Nat) (C : xS) : Int := sm (fun j => if C 10 j 0 = 0 ∧ C 10 j 1 = (p : Int) then 1 else 0) N
def livP (N : Nat) (C : xS) : Int := sm (fun j => if C 10 j 0 = 0 then 1 else 0) N
theorem BS.own {q : Int} {C S : xS} (h : BS q C S) {p N : Nat} (hN : N ≤ 20) : ownS (p : Int) N S = ownP p N C := sm_congr (fun j hj => by rw [e32, h.at (by decide) (by decide) (by unfold sct; omega)])
theorem BS.liv {q : Int} {C S : xS} (h : BS q C S) {N : Nat} (hN : N ≤ 20) : livS 0 N S = livP N C := sm_congr (fun j hj => by rw [e32, h.at (by decide) (by decide) (by unfold sct; omega)])
theorem BS.dem {q a : Int} {C S : xS} (h : BS q C S) {N : Nat} (hN : N ≤ 20) : demF 0 N a S = demF 0 N a C := sm_congr (fun j hj => by rw [e32, h.at (by decide) (by decide) (by unfold sct; omega)])
theorem BS.acc {q p b d : Int} {C S : xS} (h : BS q C S) {N : Nat} (hN : N ≤ 20) : accF 0 5 N p b d S = accF 0 5 N p b d C := tlq.acc (h.tlq (by omega))
theorem BS.gb {q p d : Int} {C S : xS} (h : BS q C S) {N : Nat} (hN : N ≤ 20) : ∀ i, gbF p d N S i = gbF p d N C i
  | 0 => rfl
  | i + 1 => by unfold gbF; rw [h.acc hN, h.gb hN i]
theorem BS.bdd {q p b d : Int} {C S : xS} (h : BS q C S) {N : Nat} (hN : N ≤ 20) : (bddF N p b d S 240 = true) ↔ (bddF N p b d C 240 = true) := by
  rw [bddF_iff, bddF_iff]
  constructor
  · intro z k h1 h2; rw [← h.dem hN]; exact z k h1 h2
  · intro z k h1 h2; rw [h.dem hN]; exact z k h1 h2
theorem BS.spa {q : Int} {C S : xS} (h : BS q C S) {N : Nat} (hN : N ≤ 20) : freT 0 N 360 S = freT 0 N 360 C := (h.tlq (by omega)).fre
theorem BS.sal {q : Int} {C S : xS} (h : BS q C S) : S 25 0 = C 25 0 := h.at (by decide) (by decide) (by unfold sct; omega)
set_option maxHeartbeats 400000 in
theorem w_told {w : xW} {S C : xS} {B : String → xS → Prop} {A : Int → xS → Prop} {N : Nat} {T q : Int} (hB : BS q C S) (hV : VS 0 4 N T C) (hT : T ≤ 800000) {j : Nat} {a : Int} (hj : j < N) (ha : 0 ≤ a ∧ a ≤ 16) (hq : A (xfg1 (C 2 0 2) (C 10 j) a.toNat) S)  : Ki w mL_told yL_told 0 0 [xp 0 0, xi (j : Int), xi a] S A B := by
  have hS := hB.V hV
  have hN := hV.2.1
  have hv : (o_told (j : Int) a 4 N S).1 = 0 := by unfold o_told; rw [if_pos ⟨by omega, by omega⟩, if_pos ha]
  have ev : (o_told (j : Int) a 4 N S).2.1 = xfg1 (C 2 0 2) (C 10 j) a.toNat := by unfold o_told; rw [if_pos ⟨by omega, by omega⟩, if_pos ha, Int.toNat_natCast, e32, hB.at (by decide) (by decide) (by unfold sct; omega), hB.at (by decide) (by decide) (by unfold sct; omega)]
  refine K.ofH rfl rfl rfl rfl (Nat.le_of_ble_eq_true rfl) rfl ?_
  refine xs_aload_0 eL_told_0 ?_
  refine xs_iload_1 eL_told_1 ?_
  refine xs_iload_2 eL_told_2 ?_
  refine xbi_V20 (mi' := mX7_told) (y := yX7_told) eL_told_3 (xw_5 lRL_92 wy_X7_told) rfl ⟨wd_X7_told, by decide, by decide⟩ (by decide) (fun _ => rfl) rfl (Nat.le_of_ble_eq_true rfl) rfl (Z_told hS hT (by omega) (by omega) hv ?_)
  exact xa_iret eL_told_6 rfl ⟨_, rfl, (by rw [ev]; exact hq)⟩
set_option maxHeartbeats 400000 in
theorem w_process {w : xW} {S C : xS} {B : String → xS → Prop} {A : Int → xS → Prop} {N : Nat} {T q : Int} (hB : BS q C S) (hV : VS 0 4 N T C) (hT : T ≤ 800000) {p : Nat} {a : Int} (hp : p < 4) (ha : 0 ≤ a ∧ a ≤ 11) (hq : A (if a = 11 then ownP p N C else C 4 p a.toNat) S)  : Ki w mL_process yL_process 0 0 [xp 0 0, xi (p : Int), xi a] S A B := by
  have hS := hB.V hV
  have hN := hV.2.1
  have hv : (o_process (p : Int) a 4 N S).1 = 0 := by unfold o_process; rw [if_pos ⟨by omega, by omega⟩, if_pos ha]
  have ev : (o_process (p : Int) a 4 N S).2.1 = if a = 11 then ownP p N C else C 4 p a.toNat := by unfold o_process; rw [if_pos ⟨by omega, by omega⟩, if_pos ha, hB.own hN, Int.toNat_natCast, e08, hB.at (by decide) (by decide) (by unfold sct; omega)]
  refine K.ofH rfl rfl rfl rfl (Nat.le_of_ble_eq_true rfl) rfl ?_
  refine xs_aload_0 eL_process_0 ?_
  refine xs_iload_1 eL_process_1 ?_
  refine xs_iload_2 eL_process_2 ?_
  refine xbi_V20 (mi' := mX7_process) (y := yX7_process) eL_process_3 (xw_5 lRL_68 wy_X7_process) rfl ⟨wd_X7_process, by decide, by decide⟩ (by decide) (fun _ => rfl) rfl (Nat.le_of_ble_eq_true rfl) rfl (Z_process hS hT (by omega) (by omega) hv ?_)
  exact xa_iret eL_process_6 rfl ⟨_, rfl, (by rw [ev]; exact hq)⟩
set_option maxHeartbeats 400000 in
theorem w_count {w : xW} {S C : xS} {B : String → xS → Prop} {A : Int → xS → Prop} {N : Nat} {T q : Int} (hB : BS q C S) (hV : VS 0 4 N T C) (hT : T ≤ 800000) {a : Int} (ha : 0 ≤ a ∧ a ≤ 12) (hq : A (figS 0 N S a.toNat) S)  : Ki w mL_count yL_count 0 0 [xp 0 0, xi a] S A B := by
  have hS := hB.V hV
  have hN := hV.2.1
  have hv : (o_count a 4 N S).1 = 0 := by unfold o_count; rw [if_pos ha]
  have ev : (o_count a 4 N S).2.1 = figS 0 N S a.toNat := by unfold o_count; rw [if_pos ha]
  refine K.ofH rfl rfl rfl rfl (Nat.le_of_ble_eq_true rfl) rfl ?_
  refine xs_aload_0 eL_count_0 ?_
  refine xs_iload_1 eL_count_1 ?_
  refine xbi_V10 (mi' := mX7_count) (y := yX7_count) eL_count_2 (xw_5 lRL_120 wy_X7_count) rfl ⟨wd_X7_count, by decide, by decide⟩ (by decide) (fun _ => rfl) rfl (Nat.le_of_ble_eq_true rfl) rfl (Z_count hS hT (by omega) hv ?_)
  exact xa_iret eL_count_5 rfl ⟨_, rfl, (by rw [ev]; exact hq)⟩
set_option maxHeartbeats 400000 in
theorem w_demand {w : xW} {S C : xS} {B : String → xS → Prop} {A : Int → xS → Prop} {N : Nat} {T q : Int} (hB : BS q C S) (hV : VS 0 4 N T C) (hT : T ≤ 800000) (hq : A (demF 0 N 60 C) S)  : Ki w mL_demand yL_demand 0 0 [xp 0 0, xi 60] S A B := by
  have hS := hB.V hV
  have hN := hV.2.1
  have ev : (o_demand 60 4 N S).2.1 = demF 0 N 60 C := by unfold o_demand; rw [if_pos (by decide), hB.dem hN]
  refine K.ofH rfl rfl rfl rfl (Nat.le_of_ble_eq_true rfl) rfl ?_
  refine xs_aload_0 eL_demand_0 ?_
  refine xs_iload_1 eL_demand_1 ?_
  refine xbi_V10 (mi' := mX7_demand) (y := yX7_demand) eL_demand_2 (xw_5 lRL_95 wy_X7_demand) rfl ⟨wd_X7_demand, by decide, by decide⟩ (by decide) (fun _ => rfl) rfl (Nat.le_of_ble_eq_true rfl) rfl (Z_demand hS hT (by decide) (by unfold o_demand; rw [if_pos (by decide)]) ?_)
  exact xa_iret eL_demand_5 rfl ⟨_, rfl, (by rw [ev]; exact hq)⟩
set_option maxHeartbeats 400000 in
theorem w_sales {w : xW} {S C : xS} {B : String → xS → Prop} {A : Int → xS → Prop} {N : Nat} {T q : Int} (hB : BS q C S) (hV : VS 0 4 N T C) (hT : T ≤ 800000) {p r : Nat} (hp : p < 4) (hr : r < 4) (hq : A (C 25 0 (8 * p + r)) S)  : Ki w mL_sales yL_sales 0 0 [xp 0 0, xi (p : Int), xi (r : Int)] S A B := by
  have hS := hB.V hV
  have hN := hV.2.1
  have hv : (o_sales (p : Int) (r : Int) 4 N S).1 = 0 := by unfold o_sales; rw [if_pos ⟨by omega, by omega⟩, if_pos ⟨by omega, by omega⟩]
  have ev : (o_sales (p : Int) (r : Int) 4 N S).2.1 = C 25 0 (8 * p + r) := by unfold o_sales; rw [if_pos ⟨by omega, by omega⟩, if_pos ⟨by omega, by omega⟩, Int.toNat_natCast, Int.toNat_natCast, hB.sal]
  refine K.ofH rfl rfl rfl rfl (Nat.le_of_ble_eq_true rfl) rfl ?_
  refine xs_aload_0 eL_sales_0 ?_
  refine xs_iload_1 eL_sales_1 ?_
  refine xs_iload_2 eL_sales_2 ?_
  refine xbi_V20 (mi' := mX7_sales) (y := yX7_sales) eL_sales_3 (xw_5 lRL_113 wy_X7_sales) rfl ⟨wd_X7_sales, by decide, by decide⟩ (by decide) (fun _ => rfl) rfl (Nat.le_of_ble_eq_true rfl) rfl (Z_sales hS hT (by omega) (by omega) hv ?_)
  exact xa_iret eL_sales_6 rfl ⟨_, rfl, (by rw [ev]; exact hq)⟩
set_option maxHeartbeats 400000 in
theorem w_canAccept {w : xW} {S C : xS} {B : String → xS → Prop} {A : Int → xS → Prop} {N : Nat} {T q : Int} (hB : BS q C S) (hV : VS 0 4 N T C) (hT : T ≤ 800000) {p b d : Int} (hw : wshP p b d) (hq : ∀ S', BS q C S' → A (b2i (accF 0 5 N p b d C = true)) S')  : Ki w mL_canAccept yL_canAccept 0 0 [xp 0 0, xi p, xi b, xi d] S A B := by
  have hS := hB.V hV
  have hN := hV.2.1
  have hw2 := hw
  obtain ⟨⟨w1, w2, w3⟩, w4, w5⟩ := hw2
  have hv : (o_canAccept p b d 4 N S).1 = 0 := by unfold o_canAccept; rw [if_pos hw]
  have ev : (o_canAccept p b d 4 N S).2.1 = b2i (accF 0 5 N p b d C = true) := by unfold o_canAccept; rw [if_pos hw]; dsimp only; rw [hB.acc hN]
  have e2 : (o_canAccept p b d 4 N S).2.2.2.2 = S := by unfold o_canAccept; rw [if_pos hw]
  refine K.ofH rfl rfl rfl rfl (Nat.le_of_ble_eq_true rfl) rfl ?_
  refine xs_aload_0 eL_canAccept_0 ?_
  refine xs_iload_1 eL_canAccept_1 ?_
  refine xs_iload_2 eL_canAccept_2 ?_
  refine xs_iload_3 eL_canAccept_3 ?_
  refine xbi_V30 (mi' := mX7_canAccept) (y := yX7_canAccept) eL_canAccept_4 (xw_5 lRL_75 wy_X7_canAccept) rfl ⟨wd_X7_canAccept, by decide, by decide⟩ (by decide) (fun _ => rfl) rfl (Nat.le_of_ble_eq_true rfl) rfl (Z_canAccept hS hT (by omega) (by omega) (by omega) hv (fun S9 _ s9 => ?_))
  rw [ev]
  rw [e2] at s9
  refine xa_ifb_eq (tgt := 14) eL_canAccept_7 (by decide) (fun c7 => ?_) (fun c7 => ?_)
  · refine xa_iconst eL_canAccept_14 ?_
    exact xa_iret eL_canAccept_15 rfl ⟨_, rfl, (by have h9 := hq S9 (hB.sc s9); unfold b2i at h9; first | (rw [if_pos (by assumption)] at h9; exact h9) | (rw [if_neg (by assumption)] at h9; exact h9))⟩
  · refine xa_iconst eL_canAccept_10 ?_
    refine xa_goto (tgt := 15) eL_canAccept_11 (by decide) ?_
    exact xa_iret eL_canAccept_15 rfl ⟨_, rfl, (by have h9 := hq S9 (hB.sc s9); unfold b2i at h9; first | (rw [if_pos (by assumption)] at h9; exact h9) | (rw [if_neg (by assumption)] at h9; exact h9))⟩
set_option maxHeartbeats 400000 in
theorem w_isBounded {w : xW} {S C : xS} {B : String → xS → Prop} {A : Int → xS → Prop} {N : Nat} {T q : Int} (hB : BS q C S) (hV : VS 0 4 N T C) (hT : T ≤ 800000) {p b d : Int} (hw : wshP p b d) (hq1 : bddF N p b d C 240 = true → ∀ S', BS q C S' → A 1 S') (hq0 : ¬ bddF N p b d C 240 = true → ∀ S', BS q C S' → A 0 S')  : Ki w mL_isBounded yL_isBounded 0 0 [xp 0 0, xi p, xi b, xi d] S A B := by
  have hS := hB.V hV
  have hN := hV.2.1
  have hw2 := hw
  obtain ⟨⟨w1, w2, w3⟩, w4, w5⟩ := hw2
  have hv : (o_isBounded p b d 4 N S).1 = 0 := by unfold o_isBounded; rw [if_pos hw]
  have ev : (o_isBounded p b d 4 N S).2.1 = b2i (bddF N p b d S 240 = true) := by unfold o_isBounded; rw [if_pos hw]
  have e2 : (o_isBounded p b d 4 N S).2.2.2.2 = S := by unfold o_isBounded; rw [if_pos hw]
  have hx : (bddF N p b d S 240 = true) ↔ (bddF N p b d C 240 = true) := hB.bdd hN
  generalize bddF N p b d S 240 = Xb at ev hx
  generalize bddF N p b d C 240 = Yb at hq1 hq0 hx
  refine K.ofH rfl rfl rfl rfl (Nat.le_of_ble_eq_true rfl) rfl ?_
  refine xs_aload_0 eL_isBounded_0 ?_
  refine xs_iload_1 eL_isBounded_1 ?_
  refine xs_iload_2 eL_isBounded_2 ?_
  refine xs_iload_3 eL_isBounded_3 ?_
  refine xbi_V30 (mi' := mX7_isBounded) (y := yX7_isBounded) eL_isBounded_4 (xw_5 lRL_98 wy_X7_isBounded) rfl ⟨wd_X7_isBounded, by decide, by decide⟩ (by decide) (fun _ => rfl) rfl (Nat.le_of_ble_eq_true rfl) rfl (Z_isBounded hS hT (by omega) (by omega) (by omega) hv (fun S9 _ s9 => ?_))
  rw [ev]
  rw [e2] at s9
  refine xa_ifb_eq (tgt := 14) eL_isBounded_7 (by decide) (fun c7 => ?_) (fun c7 => ?_)
  · refine xa_iconst eL_isBounded_14 ?_
    exact xa_iret eL_isBounded_15 rfl ⟨_, rfl, (by first | exact hq1 (hx.mp (by assumption)) S9 (hB.sc s9) | exact hq0 (fun z => absurd (hx.mpr z) (by assumption)) S9 (hB.sc s9))⟩
  · refine xa_iconst eL_isBounded_10 ?_
    refine xa_goto (tgt := 15) eL_isBounded_11 (by decide) ?_
    exact xa_iret eL_isBounded_15 rfl ⟨_, rfl, (by first | exact hq1 (hx.mp (by assumption)) S9 (hB.sc s9) | exact hq0 (fun z => absurd (hx.mpr z) (by assumption)) S9 (hB.sc s9))⟩
set_option maxHeartbeats 400000 in
theorem w_greatestBudget {w : xW} {S C : xS} {B : String → xS → Prop} {A : Int → xS → Prop} {N : Nat} {T q : Int} (hB : BS q C S) (hV : VS 0 4 N T C) (hT : T ≤ 800000) {p d : Int} (hp : perP p) (hd : 1 ≤ d ∧ d ≤ p) (hq : ∀ S', BS q C S' → A (gbF p d N C d.toNat) S')  : Ki w mL_greatestBudget yL_greatestBudget 0 0 [xp 0 0, xi p, xi d] S A B := by
  have hS := hB.V hV
  have hN := hV.2.1
  have hp2 := hp
  obtain ⟨w1, w2, w3⟩ := hp2
  have hv : (o_greatestBudget p d 4 N S).1 = 0 := by unfold o_greatestBudget; rw [if_pos hp, if_pos hd]
  have ev : (o_greatestBudget p d 4 N S).2.1 = gbF p d N C d.toNat := by unfold o_greatestBudget; rw [if_pos hp, if_pos hd]; exact hB.gb hN _
  have e2 : (o_greatestBudget p d 4 N S).2.2.2.2 = S := by unfold o_greatestBudget; rw [if_pos hp, if_pos hd]
  refine K.ofH rfl rfl rfl rfl (Nat.le_of_ble_eq_true rfl) rfl ?_
  refine xs_aload_0 eL_greatestBudget_0 ?_
  refine xs_iload_1 eL_greatestBudget_1 ?_
  refine xs_iload_2 eL_greatestBudget_2 ?_
  refine xbi_V20 (mi' := mX7_greatestBudget) (y := yX7_greatestBudget) eL_greatestBudget_3 (xw_5 lRL_79 wy_X7_greatestBudget) rfl ⟨wd_X7_greatestBudget, by decide, by decide⟩ (by decide) (fun _ => rfl) rfl (Nat.le_of_ble_eq_true rfl) rfl (Z_greatestBudget hS hT (by omega) (by omega) hv (fun S9 _ s9 => ?_))
  rw [ev]
  rw [e2] at s9
  exact xa_iret eL_greatestBudget_6 rfl ⟨_, rfl, (hq S9 (hB.sc s9))⟩
set_option maxHeartbeats 400000 in
theorem w_waitFor {w : xW} {S C : xS} {B : String → xS → Prop} {A : Int → xS → Prop} {N : Nat} {T q : Int} (hB : BS q C S) (hV : VS 0 4 N T C) (hT : T ≤ 800000) {p b d : Int} (hw : wshP p b d) (hq : ∀ S', BS q C S' → A (frs (fun i => accF 0 5 N p b d (itr (tckS 0 4 N) i S)) 121 0) S')  : Ki w mL_waitFor yL_waitFor 0 0 [xp 0 0, xi p, xi b, xi d] S A B := by
  have hS := hB.V hV
  have hN := hV.2.1
  have hw2 := hw
  obtain ⟨⟨w1, w2, w3⟩, w4, w5⟩ := hw2
  have hv : (o_waitFor p b d 4 N S).1 = 0 := by unfold o_waitFor; rw [if_pos hw]
  have ev : (o_waitFor p b d 4 N S).2.1 = frs (fun i => accF 0 5 N p b d (itr (tckS 0 4 N) i S)) 121 0 := by unfold o_waitFor; rw [if_pos hw]
  have e2 : (o_waitFor p b d 4 N S).2.2.2.2 = S := by unfold o_waitFor; rw [if_pos hw]
  refine K.ofH rfl rfl rfl rfl (Nat.le_of_ble_eq_true rfl) rfl ?_
  refine xs_aload_0 eL_waitFor_0 ?_
  refine xs_iload_1 eL_waitFor_1 ?_
  refine xs_iload_2 eL_waitFor_2 ?_
  refine xs_iload_3 eL_waitFor_3 ?_
  refine xbi_V30 (mi' := mX7_waitFor) (y := yX7_waitFor) eL_waitFor_4 (xw_5 lRL_82 wy_X7_waitFor) rfl ⟨wd_X7_waitFor, by decide, by decide⟩ (by decide) (fun _ => rfl) rfl (Nat.le_of_ble_eq_true rfl) rfl (Z_waitFor hS hT (by omega) (by omega) (by omega) hv (fun S9 _ s9 => ?_))
  rw [ev]
  rw [e2] at s9
  exact xa_iret eL_waitFor_7 rfl ⟨_, rfl, (hq S9 (hB.sc s9))⟩
set_option maxHeartbeats 400000 in
theorem w_run {w : xW} {S C : xS} {B : String → xS → Prop} {A : Int → xS → Prop} {N : Nat} {T q : Int} (hB : BS q C S) (hV : VS 0 4 N T C) (hT : T ≤ 800000) {m : Nat} (hm : 1 ≤ m ∧ m ≤ 500) (hq : ∀ S', BS q (itr (tckS 0 4 N) m S) S' → A (itr (tckS 0 4 N) m S 1 0 10 - S 1 0 10) S')  : Ki w mL_run yL_run 0 0 [xp 0 0, xi (m : Int)] S A B := by
  have hS := hB.V hV
  have hN := hV.2.1
  have hv : (o_run (m : Int) 4 N S).1 = 0 := by unfold o_run; rw [if_pos ⟨by omega, by omega⟩]
  have ev : (o_run (m : Int) 4 N S).2.1 = itr (tckS 0 4 N) m S 1 0 10 - S 1 0 10 := by unfold o_run; rw [if_pos ⟨by omega, by omega⟩, Int.toNat_natCast]
  have e2 : (o_run (m : Int) 4 N S).2.2.2.2 = itr (tckS 0 4 N) m S := by unfold o_run; rw [if_pos ⟨by omega, by omega⟩, Int.toNat_natCast]
  have e3 : itr (tckS 0 4 N) m S 30 0 = S 30 0 := (itr_fr hS m) 30 0 (by omega) (by omega) (by omega) (by omega) (by omega) (by omega)
  refine K.ofH rfl rfl rfl rfl (Nat.le_of_ble_eq_true rfl) rfl ?_
  refine xs_aload_0 eL_run_0 ?_
  refine xs_iload_1 eL_run_1 ?_
  refine xbi_V10 (mi' := mX7_run) (y := yX7_run) eL_run_2 (xw_5 lRL_123 wy_X7_run) rfl ⟨wd_X7_run, by decide, by decide⟩ (by decide) (fun _ => rfl) rfl (Nat.le_of_ble_eq_true rfl) rfl (Z_run hS hT (by omega) hv (fun S9 _ s9 => ?_))
  rw [ev]
  rw [e2] at s9
  exact xa_iret eL_run_5 rfl ⟨_, rfl, (hq S9 (hB.nw e3 s9))⟩
set_option maxHeartbeats 400000 in
theorem w_ticksToFinish {w : xW} {S C : xS} {B : String → xS → Prop} {A : Int → xS → Prop} {N : Nat} {T q : Int} (hB : BS q C S) (hV : VS 0 4 N T C) (hT : T ≤ 800000) {p m : Nat} (hp : p < 4) (hm : 1 ≤ m ∧ m ≤ 500) (hq : ∀ S', BS q C S' → A (frs (fun i => decide (itr (tckS 1 4 N) i (cpyS 0 1 4 N S) 4 (8 * 1 + p) 1 = 0)) (m + 1) 0) S')  : Ki w mL_ticksToFinish yL_ticksToFinish 0 0 [xp 0 0, xi (p : Int), xi (m : Int)] S A B := by
  have hS := hB.V hV
  have hN := hV.2.1
  have hv : (o_ticksToFinish (p : Int) (m : Int) 4 N S).1 = 0 := by unfold o_ticksToFinish; rw [if_pos ⟨by omega, by omega⟩, if_pos ⟨by omega, by omega⟩]
  have ev : (o_ticksToFinish (p : Int) (m : Int) 4 N S).2.1 = frs (fun i => decide (itr (tckS 1 4 N) i (cpyS 0 1 4 N S) 4 (8 * 1 + p) 1 = 0)) (m + 1) 0 := by unfold o_ticksToFinish; rw [if_pos ⟨by omega, by omega⟩, if_pos ⟨by omega, by omega⟩, Int.toNat_natCast, Int.toNat_natCast]
  have e2 : (o_ticksToFinish (p : Int) (m : Int) 4 N S).2.2.2.2 = S := by unfold o_ticksToFinish; rw [if_pos ⟨by omega, by omega⟩, if_pos ⟨by omega, by omega⟩]
  refine K.ofH rfl rfl rfl rfl (Nat.le_of_ble_eq_true rfl) rfl ?_
  refine xs_aload_0 eL_ticksToFinish_0 ?_
  refine xs_iload_1 eL_ticksToFinish_1 ?_
  refine xs_iload_2 eL_ticksToFinish_2 ?_
  refine xbi_V20 (mi' := mX7_ticksToFinish) (y := yX7_ticksToFinish) eL_ticksToFinish_3 (xw_5 lRL_126 wy_X7_ticksToFinish) rfl ⟨wd_X7_ticksToFinish, by decide, by decide⟩ (by decide) (fun _ => rfl) rfl (Nat.le_of_ble_eq_true rfl) rfl (Z_ticksToFinish hS hT (by omega) (by omega) hv (fun S9 _ s9 => ?_))
  rw [ev]
  rw [e2] at s9
  exact xa_iret eL_ticksToFinish_6 rfl ⟨_, rfl, (hq S9 (hB.sc s9))⟩
set_option maxHeartbeats 400000 in
theorem w_moneyAfter {w : xW} {S C : xS} {B : String → xS → Prop} {A : Int → xS → Prop} {N : Nat} {T q : Int} (hB : BS q C S) (hV : VS 0 4 N T C) (hT : T ≤ 800000) {p m : Nat} (hp : p < 4) (hm : 1 ≤ m ∧ m ≤ 500) (hq : ∀ S', BS q C S' → A (itr (tckS 1 4 N) m (cpyS 0 1 4 N S) 4 (8 * 1 + p) 0) S')  : Ki w mL_moneyAfter yL_moneyAfter 0 0 [xp 0 0, xi (p : Int), xi (m : Int)] S A B := by
  have hS := hB.V hV
  have hN := hV.2.1
  have hv : (o_moneyAfter (p : Int) (m : Int) 4 N S).1 = 0 := by unfold o_moneyAfter; rw [if_pos ⟨by omega, by omega⟩, if_pos ⟨by omega, by omega⟩]
  have ev : (o_moneyAfter (p : Int) (m : Int) 4 N S).2.1 = itr (tckS 1 4 N) m (cpyS 0 1 4 N S) 4 (8 * 1 + p) 0 := by unfold o_moneyAfter; rw [if_pos ⟨by omega, by omega⟩, if_pos ⟨by omega, by omega⟩, Int.toNat_natCast, Int.toNat_natCast]
  have e2 : (o_moneyAfter (p : Int) (m : Int) 4 N S).2.2.2.2 = S := by unfold o_moneyAfter; rw [if_pos ⟨by omega, by omega⟩, if_pos ⟨by omega, by omega⟩]
  refine K.ofH rfl rfl rfl rfl (Nat.le_of_ble_eq_true rfl) rfl ?_
  refine xs_aload_0 eL_moneyAfter_0 ?_
  refine xs_iload_1 eL_moneyAfter_1 ?_
  refine xs_iload_2 eL_moneyAfter_2 ?_
  refine xbi_V20 (mi' := mX7_moneyAfter) (y := yX7_moneyAfter) eL_moneyAfter_3 (xw_5 lRL_129 wy_X7_moneyAfter) rfl ⟨wd_X7_moneyAfter, by decide, by decide⟩ (by decide) (fun _ => rfl) rfl (Nat.le_of_ble_eq_true rfl) rfl (Z_moneyAfter hS hT (by omega) (by omega) hv (fun S9 _ s9 => ?_))
  rw [ev]
  rw [e2] at s9
  exact xa_iret eL_moneyAfter_6 rfl ⟨_, rfl, (hq S9 (hB.sc s9))⟩
set_option maxHeartbeats 400000 in
theorem w_bestBid {w : xW} {S C : xS} {B : String → xS → Prop} {A : Int → xS → Prop} {N : Nat} {T q : Int} (hB : BS q C S) (hV : VS 0 4 N T C) (hT : T ≤ 800000) {p m : Nat} (hp : p < 4) (hm : 1 ≤ m ∧ m ≤ 120) (hq : ∀ S', BS q C S' → A (bbF p m 4 N S 100).1 S')  : Ki w mL_bestBid yL_bestBid 0 0 [xp 0 0, xi (p : Int), xi (m : Int)] S A B := by
  have hS := hB.V hV
  have hN := hV.2.1
  have hv : (o_bestBid (p : Int) (m : Int) 4 N S).1 = 0 := by unfold o_bestBid; rw [if_pos ⟨by omega, by omega⟩, if_pos ⟨by omega, by omega⟩]
  have ev : (o_bestBid (p : Int) (m : Int) 4 N S).2.1 = (bbF p m 4 N S 100).1 := by unfold o_bestBid; rw [if_pos ⟨by omega, by omega⟩, if_pos ⟨by omega, by omega⟩, Int.toNat_natCast, Int.toNat_natCast]
  have e2 : (o_bestBid (p : Int) (m : Int) 4 N S).2.2.2.2 = S := by unfold o_bestBid; rw [if_pos ⟨by omega, by omega⟩, if_pos ⟨by omega, by omega⟩]
  refine K.ofH rfl rfl rfl rfl (Nat.le_of_ble_eq_true rfl) rfl ?_
  refine xs_aload_0 eL_bestBid_0 ?_
  refine xs_iload_1 eL_bestBid_1 ?_
  refine xs_iload_2 eL_bestBid_2 ?_
  refine xbi_V20 (mi' := mX7_bestBid) (y := yX7_bestBid) eL_bestBid_3 (xw_5 lRL_132 wy_X7_bestBid) rfl ⟨wd_X7_bestBid, by decide, by decide⟩ (by decide) (fun _ => rfl) rfl (Nat.le_of_ble_eq_true rfl) rfl (Z_bestBid hS hT (by omega) (by omega) hv (fun S9 _ s9 => ?_))
  rw [ev]
  rw [e2] at s9
  exact xa_iret eL_bestBid_6 rfl ⟨_, rfl, (hq S9 (hB.sc s9))⟩
set_option maxHeartbeats 400000 in
theorem w_setBid {w : xW} {S C : xS} {B : String → xS → Prop} {A : Int → xS → Prop} {N : Nat} {T q : Int} (hB : BS q C S) (hV : VS 0 4 N T C) (hT : T ≤ 800000) {p : Nat} {b : Int} (hp : p < 4) (hb : 0 ≤ b ∧ b ≤ 99) (hq : ∀ S', BS q (up S 4 p 2 b) S' → A (C 4 p 2) S')  : Ki w mL_setBid yL_setBid 0 0 [xp 0 0, xi (p : Int), xi b] S A B := by
  have hS := hB.V hV
  have hN := hV.2.1
  have hv : (o_setBid (p : Int) b 4 N S).1 = 0 := by unfold o_setBid; rw [if_pos ⟨by omega, by omega⟩, if_pos hb]
  have ev : (o_setBid (p : Int) b 4 N S).2.1 = C 4 p 2 := by unfold o_setBid; rw [if_pos ⟨by omega, by omega⟩, if_pos hb, Int.toNat_natCast, e08, hB.at (by decide) (by decide) (by unfold sct; omega)]
  have e2 : (o_setBid (p : Int) b 4 N S).2.2.2.2 = up S 4 p 2 b := by unfold o_setBid; rw [if_pos ⟨by omega, by omega⟩, if_pos hb, Int.toNat_natCast, e08]
  refine K.ofH rfl rfl rfl rfl (Nat.le_of_ble_eq_true rfl) rfl ?_
  refine xs_aload_0 eL_setBid_0 ?_
  refine xs_iload_1 eL_setBid_1 ?_
  refine xs_iload_2 eL_setBid_2 ?_
  refine xbi_V20 (mi' := mX7_setBid) (y := yX7_setBid) eL_setBid_3 (xw_5 lRL_53 wy_X7_setBid) rfl ⟨wd_X7_setBid, by decide, by decide⟩ (by decide) (fun _ => rfl) rfl (Nat.le_of_ble_eq_true rfl) rfl (Z_setBid hS hT (by omega) (by omega) hv (fun S9 _ s9 => ?_))
  rw [ev]
  rw [e2] at s9
  exact xa_iret eL_setBid_6 rfl ⟨_, rfl, (hq S9 (hB.nw (up_oth (by omega)) s9))⟩
set_option maxHeartbeats 400000 in
theorem w_addWork {w : xW} {S C : xS} {B : String → xS → Prop} {A : Int → xS → Prop} {N : Nat} {T q : Int} (hB : BS q C S) (hV : VS 0 4 N T C) (hT : T ≤ 800000) {p : Nat} {b : Int} (hp : p < 4) (hb : 1 ≤ b ∧ b ≤ 1000) (hq : ∀ S', BS q (up S 4 p 1 (xmin 9999 (S 4 p 1 + b))) S' → A (xmin 9999 (S 4 p 1 + b)) S')  : Ki w mL_addWork yL_addWork 0 0 [xp 0 0, xi (p : Int), xi b] S A B := by
  have hS := hB.V hV
  have hN := hV.2.1
  have hv : (o_addWork (p : Int) b 4 N S).1 = 0 := by unfold o_addWork; rw [if_pos ⟨by omega, by omega⟩, if_pos hb]
  have ev : (o_addWork (p : Int) b 4 N S).2.1 = xmin 9999 (S 4 p 1 + b) := by unfold o_addWork; rw [if_pos ⟨by omega, by omega⟩, if_pos hb, Int.toNat_natCast, e08]
  have e2 : (o_addWork (p : Int) b 4 N S).2.2.2.2 = up S 4 p 1 (xmin 9999 (S 4 p 1 + b)) := by unfold o_addWork; rw [if_pos ⟨by omega, by omega⟩, if_pos hb, Int.toNat_natCast, e08]
  refine K.ofH rfl rfl rfl rfl (Nat.le_of_ble_eq_true rfl) rfl ?_
  refine xs_aload_0 eL_addWork_0 ?_
  refine xs_iload_1 eL_addWork_1 ?_
  refine xs_iload_2 eL_addWork_2 ?_
  refine xbi_V20 (mi' := mX7_addWork) (y := yX7_addWork) eL_addWork_3 (xw_5 lRL_62 wy_X7_addWork) rfl ⟨wd_X7_addWork, by decide, by decide⟩ (by decide) (fun _ => rfl) rfl (Nat.le_of_ble_eq_true rfl) rfl (Z_addWork hS hT (by omega) (by omega) hv (fun S9 _ s9 => ?_))
  rw [ev]
  rw [e2] at s9
  exact xa_iret eL_addWork_6 rfl ⟨_, rfl, (hq S9 (hB.nw (up_oth (by omega)) s9))⟩
set_option maxHeartbeats 400000 in
theorem w_buyCheapest {w : xW} {S C : xS} {B : String → xS → Prop} {A : Int → xS → Prop} {N : Nat} {T q : Int} (hB : BS q C S) (hV : VS 0 4 N T C) (hT : T ≤ 800000) {p : Nat} (hp : p < 4) (hq0 : chpS 0 p S N = none → ∀ S', BS q C S' → A (-1) S') (hq1 : ∀ b : Nat, chpS 0 p S N = some b → ∀ S', BS q (selS 0 b p (S 10 b 1).toNat S) S' → A (b : Int) S')  : Ki w mL_buyCheapest yL_buyCheapest 0 0 [xp 0 0, xi (p : Int)] S A B := by
  have hS := hB.V hV
  have hN := hV.2.1
  have hv : (o_buyCheapest (p : Int) 4 N S).1 = 0 := by unfold o_buyCheapest; rw [if_pos ⟨by omega, by omega⟩]; split <;> rfl
  refine K.ofH rfl rfl rfl rfl (Nat.le_of_ble_eq_true rfl) rfl ?_
  refine xs_aload_0 eL_buyCheapest_0 ?_
  refine xs_iload_1 eL_buyCheapest_1 ?_
  refine xbi_V10 (mi' := mX7_buyCheapest) (y := yX7_buyCheapest) eL_buyCheapest_2 (xw_5 lRL_107 wy_X7_buyCheapest) rfl ⟨wd_X7_buyCheapest, by decide, by decide⟩ (by decide) (fun _ => rfl) rfl (Nat.le_of_ble_eq_true rfl) rfl (Z_buyCheapest hS hT (by omega) hv (fun S9 _ s9 => ?_))
  exact xa_iret eL_buyCheapest_5 rfl ⟨_, rfl, (by
    unfold o_buyCheapest at s9 ⊢
    rw [if_pos ⟨by omega, by omega⟩, Int.toNat_natCast] at s9 ⊢
    cases hc : chpS 0 p S N with
    | none => rw [hc] at s9; exact hq0 hc S9 (hB.sc s9)
    | some b =>
      rw [hc] at s9
      dsimp only at s9 ⊢
      rw [e32] at s9
      exact hq1 b hc S9 (hB.nw (by unfold selS; repeat rw [up_oth (by omega)]) s9))⟩
