/-! the law: builds, holds -/
/-- while the processes are made: n of them -/
def BI (T : Int) (n : Nat) (C : xS) : Prop := VS 0 n 0 T C ∧ (C 1 0 6 = 0 ∧ C 1 0 10 = 0 ∧ C 1 0 11 = 0 ∧ C 1 0 13 = 0) ∧ (∀ p, p < n → C 4 p 0 ≤ 4999 ∧ C 4 p 5 = 0 ∧ C 4 p 6 = 0 ∧ C 4 p 7 = 0 ∧ C 4 p 8 = 0 ∧ C 4 p 9 = 0) ∧ (∀ i, i < 15 → C 31 0 i = perA i) ∧ ∀ j, j < 2 → C 21 0 j = 0 ∨ C 21 0 j = 1
theorem BI.L {T : Int} {C : xS} (h : BI T 4 C) : LIN T 0 C := by
  obtain ⟨h1, ⟨a1, a2, a3, a4⟩, h3, h4, h5⟩ := h
  have z : ∀ g, g = 5 ∨ g = 6 ∨ g = 7 ∨ g = 8 ∨ g = 9 → smP C g = 0 := fun g hg => by
    have e4 : ∀ f : Nat → Int, sm f 4 = 0 + f 0 + f 1 + f 2 + f 3 := fun f => rfl
    unfold smP
    rw [e4]
    have p0 := h3 0 (by decide); have p1 := h3 1 (by decide); have p2 := h3 2 (by decide); have p3 := h3 3 (by decide)
    rcases hg with rfl | rfl | rfl | rfl | rfl <;> omega
  refine ⟨h1, Fut.nil, ⟨fun j hj => absurd hj (Nat.not_lt_zero j), a4, ?_, ?_, ?_, ?_, ?_, ?_⟩, h4, h5, fun _ j hj => absurd hj (Nat.not_lt_zero j)⟩
  · rw [z 5 (by omega)]; rfl
  · rw [z 6 (by omega)]; rfl
  · rw [a2]; rfl
  · rw [z 7 (by omega), a3]
  · rw [z 8 (by omega), z 9 (by omega)]
  · have e4 : ∀ f : Nat → Int, sm f 4 = 0 + f 0 + f 1 + f 2 + f 3 := fun f => rfl
    unfold mon smP
    rw [e4]
    have p0 := h3 0 (by decide); have p1 := h3 1 (by decide); have p2 := h3 2 (by decide); have p3 := h3 3 (by decide)
    omega
theorem BI.bs {T q : Int} {n : Nat} {C S : xS} (h : BI T n C) (hB : BS q C S) : BI T n S := by
  obtain ⟨h1, h2, h3, h4, h5⟩ := h
  have hn := h1.2.2.1
  refine ⟨hB.V h1, ?_, fun p hp => ?_, fun i hi => ?_, fun j hj => ?_⟩
  · rw [hB.at (x := 1) (y := 0) (by decide) (by decide) (by unfold sct; omega)]; exact h2
  · rw [hB.at (x := 4) (y := p) (by decide) (by decide) (by unfold sct; omega)]; exact h3 p hp
  · rw [hB.at (x := 31) (y := 0) (by decide) (by decide) (by unfold sct; omega)]; exact h4 i hi
  · rw [hB.at (x := 21) (y := 0) (by decide) (by decide) (by unfold sct; omega)]; exact h5 j hj
theorem BI.ent {T m b d : Int} {n : Nat} {C : xS} (h : BI T n C) (hT : T ≤ 700000) (hn : n < 8) (hm : 0 ≤ m ∧ m ≤ 4999) (hb : 0 ≤ b ∧ b ≤ 9999) (hd : 0 ≤ d ∧ d ≤ 99) : BI (T + 1500) (n + 1) (entS 0 n m b d C) := by
  obtain ⟨h1, h2, h3, h4, h5⟩ := h
  have ht := h1.1.2.2.1
  have hi := i_addProcess (a := m) (b := b) (c := d) h1 Fut.nil ⟨by omega, by omega⟩
  have eo : o_addProcess m b d n 0 C = (0, (n : Int), n + 1, 0, entS 0 n m b d C) := by
    unfold o_addProcess
    rw [if_pos ⟨by omega, by omega⟩, if_pos hb, if_pos hd, if_pos hn]
  unfold Ivo at hi
  rw [eo] at hi
  have v1 : ∀ f, f ≠ 3 → entS 0 n m b d C 1 0 f = C 1 0 f := fun f hf => by unfold entS rwS; rw [up_f hf, if_neg (by omega)]
  have v4 : ∀ p f, p ≠ n → entS 0 n m b d C 4 p f = C 4 p f := fun p f hp => by unfold entS rwS; rw [up_k (by decide), if_neg (by omega)]
  have v4n : ∀ f, entS 0 n m b d C 4 n f = if f = 0 then m else if f = 1 then b else if f = 2 then d else 0 := fun f => by unfold entS rwS; rw [up_k (by decide), if_pos ⟨rfl, by omega⟩]
  refine ⟨hi.1, ?_, fun p hp => ?_, fun i hi2 => ?_, fun j hj => ?_⟩
  · rw [v1 6 (by decide), v1 10 (by decide), v1 11 (by decide), v1 13 (by decide)]; exact h2
  · by_cases c : p = n
    · rw [c, v4n, v4n, v4n, v4n, v4n, v4n]; simp; omega
    · rw [v4 _ _ c, v4 _ _ c, v4 _ _ c, v4 _ _ c, v4 _ _ c, v4 _ _ c]; exact h3 p (by omega)
  · exact (congrFun (hi.2.2 31 0 (by omega) (by omega) (by omega) (by omega) (by omega) (by omega)) i).trans (h4 i hi2)
  · have e := congrFun (hi.2.2 21 0 (by omega) (by omega) (by omega) (by omega) (by omega) (by omega)) j; dsimp only at e; rw [e]; exact h5 j hj
theorem BI.arr {T e a : Int} {n p : Nat} {C : xS} (h : BI T n C) (hT : T ≤ 700000) (hp : p < n) (he : 0 ≤ e ∧ e ≤ 60) (ha : 0 ≤ a ∧ a ≤ 60) : BI (T + 1500) n (up (up C 4 p 3 e) 4 p 4 a) := by
  obtain ⟨h1, h2, h3, h4, h5⟩ := h
  have ht := h1.1.2.2.1
  have hi := i_setArrival (p := (p : Int)) (e := e) (a := a) h1 Fut.nil ⟨by omega, by omega⟩
  have eo : o_setArrival (p : Int) e a n 0 C = (0, 0, n, 0, up (up C 4 p 3 e) 4 p 4 a) := by
    unfold o_setArrival
    rw [if_pos ⟨by omega, by omega⟩, if_pos he, if_pos ha, Int.toNat_natCast, e08]
  unfold Ivo at hi
  rw [eo] at hi
  have v4 : ∀ i f, f ≠ 3 → f ≠ 4 → up (up C 4 p 3 e) 4 p 4 a 4 i f = C 4 i f := fun i f f3 f4 => by rw [up_f f4, up_f f3]
  refine ⟨hi.1, ?_, fun i hi2 => ?_, fun i hi2 => ?_, fun j hj => ?_⟩
  · rw [up_k (by decide), up_k (by decide), up_k (by decide), up_k (by decide), up_k (by decide), up_k (by decide), up_k (by decide), up_k (by decide)]; exact h2
  · rw [v4 i 0 (by decide) (by decide), v4 i 5 (by decide) (by decide), v4 i 6 (by decide) (by decide), v4 i 7 (by decide) (by decide), v4 i 8 (by decide) (by decide), v4 i 9 (by decide) (by decide)]; exact h3 i hi2
  · exact (congrFun (hi.2.2 31 0 (by omega) (by omega) (by omega) (by omega) (by omega) (by omega)) i).trans (h4 i hi2)
  · have e := congrFun (hi.2.2 21 0 (by omega) (by omega) (by omega) (by omega) (by omega) (by omega)) j; dsimp only at e; rw [e]; exact h5 j hj
theorem BI.rul {T e a : Int} {n : Nat} {C : xS} (h : BI T n C) (hT : T ≤ 700000) (he : 0 ≤ e ∧ e ≤ 99) (ha : 0 ≤ a ∧ a ≤ 50) : BI (T + 1500) n (up (up C 1 0 4 e) 1 0 5 a) := by
  obtain ⟨h1, h2, h3, h4, h5⟩ := h
  have ht := h1.1.2.2.1
  have hi := i_setRules (p := e) (f := a) h1 Fut.nil ⟨by omega, by omega⟩
  have eo : o_setRules e a n 0 C = (0, 0, n, 0, up (up C 1 0 4 e) 1 0 5 a) := by
    unfold o_setRules
    rw [if_pos he, if_pos ha]
  unfold Ivo at hi
  rw [eo] at hi
  have v1 : ∀ f, f ≠ 4 → f ≠ 5 → up (up C 1 0 4 e) 1 0 5 a 1 0 f = C 1 0 f := fun f f4 f5 => by rw [up_f f5, up_f f4]
  refine ⟨hi.1, ?_, fun i hi2 => ?_, fun i hi2 => ?_, fun j hj => ?_⟩
  · rw [v1 6 (by decide) (by decide), v1 10 (by decide) (by decide), v1 11 (by decide) (by decide), v1 13 (by decide) (by decide)]; exact h2
  · rw [up_k (by decide), up_k (by decide), up_k (by decide), up_k (by decide), up_k (by decide), up_k (by decide), up_k (by decide), up_k (by decide), up_k (by decide), up_k (by decide), up_k (by decide), up_k (by decide)]; exact h3 i hi2
  · exact (congrFun (hi.2.2 31 0 (by omega) (by omega) (by omega) (by omega) (by omega) (by omega)) i).trans (h4 i hi2)
  · have e := congrFun (hi.2.2 21 0 (by omega) (by omega) (by omega) (by omega) (by omega) (by omega)) j; dsimp only at e; rw [e]; exact h5 j hj
set_option maxHeartbeats 400000 in
theorem w_count1 {w : xW} {S C : xS} {B : String → xS → Prop} {A : Int → xS → Prop} {n : Nat} {T q : Int} (hB : BS q C S) (hV : VS 0 n 0 T C) (hT : T ≤ 800000) (hq : A (n : Int) S) : Ki w mL_count yL_count 0 0 [xp 0 0, xi 1] S A B := by
  have hS := hB.V hV
  have hv : (o_count 1 n 0 S).1 = 0 := by unfold o_count; rw [if_pos (by decide)]
  have ev : (o_count 1 n 0 S).2.1 = (n : Int) := by unfold o_count; rw [if_pos (by decide)]; exact hS.2.2.2.1.1
  refine K.ofH rfl rfl rfl rfl (Nat.le_of_ble_eq_true rfl) rfl ?_
  refine xs_aload_0 eL_count_0 ?_
  refine xs_iload_1 eL_count_1 ?_
  refine xbi_V10 (mi' := mX7_count) (y := yX7_count) eL_count_2 (xw_5 lRL_120 wy_X7_count) rfl ⟨wd_X7_count, by decide, by decide⟩ (by decide) (fun _ => rfl) rfl (Nat.le_of_ble_eq_true rfl) rfl (Z_count hS hT (by decide) hv ?_)
  exact xa_iret eL_count_5 rfl ⟨_, rfl, (by rw [ev]; exact hq)⟩
set_option maxHeartbeats 400000 in
theorem w_addProcess {w : xW} {S C : xS} {B : String → xS → Prop} {A : Int → xS → Prop} {n : Nat} {T q : Int} (hB : BS q C S) (hV : VS 0 n 0 T C) (hT : T ≤ 800000) {a b c : Int} (hn : n < 8) (ha : 0 ≤ a ∧ a ≤ 1000000) (hb : 0 ≤ b ∧ b ≤ 9999) (hc : 0 ≤ c ∧ c ≤ 99) (hq : ∀ S', BS q (entS 0 n a b c S) S' → A (n : Int) S') : Ki w mL_addProcess yL_addProcess 0 0 [xp 0 0, xi a, xi b, xi c] S A B := by
  have hS := hB.V hV
  have eo : o_addProcess a b c n 0 S = (0, (n : Int), n + 1, 0, entS 0 n a b c S) := by unfold o_addProcess; rw [if_pos ha, if_pos hb, if_pos hc, if_pos hn]
  have hv : (o_addProcess a b c n 0 S).1 = 0 := by rw [eo]
  refine K.ofH rfl rfl rfl rfl (Nat.le_of_ble_eq_true rfl) rfl ?_
  refine xs_aload_0 eL_addProcess_0 ?_
  refine xs_iload_1 eL_addProcess_1 ?_
  refine xs_iload_2 eL_addProcess_2 ?_
  refine xs_iload_3 eL_addProcess_3 ?_
  refine xbi_V30 (mi' := mX7_addProcess) (y := yX7_addProcess) eL_addProcess_4 (xw_5 lRL_45 wy_X7_addProcess) rfl ⟨wd_X7_addProcess, by decide, by decide⟩ (by decide) (fun _ => rfl) rfl (Nat.le_of_ble_eq_true rfl) rfl (Z_addProcess hS hT (by omega) (by omega) (by omega) hv (fun S9 _ s9 => ?_))
  rw [eo] at s9 ⊢
  exact xa_iret eL_addProcess_7 rfl ⟨_, rfl, (hq S9 (hB.nw (by unfold entS rwS; rw [up_oth (by omega)]; funext f; rw [if_neg (by omega)]) s9))⟩
set_option maxHeartbeats 400000 in
theorem w_setArrival {w : xW} {S C : xS} {B : String → xS → Prop} {A : Int → xS → Prop} {n : Nat} {T q : Int} (hB : BS q C S) (hV : VS 0 n 0 T C) (hT : T ≤ 800000) {p : Nat} {e a : Int} (hp : p < n) (he : 0 ≤ e ∧ e ≤ 60) (ha : 0 ≤ a ∧ a ≤ 60) (hq : ∀ S', BS q (up (up S 4 p 3 e) 4 p 4 a) S' → A 0 S') : Ki w mL_setArrival yL_setArrival 0 0 [xp 0 0, xi (p : Int), xi e, xi a] S A B := by
  have hS := hB.V hV
  have h8 := hV.2.2.1
  have eo : o_setArrival (p : Int) e a n 0 S = (0, 0, n, 0, up (up S 4 p 3 e) 4 p 4 a) := by unfold o_setArrival; rw [if_pos ⟨by omega, by omega⟩, if_pos he, if_pos ha, Int.toNat_natCast, e08]
  have hv : (o_setArrival (p : Int) e a n 0 S).1 = 0 := by rw [eo]
  refine K.ofH rfl rfl rfl rfl (Nat.le_of_ble_eq_true rfl) rfl ?_
  refine xs_aload_0 eL_setArrival_0 ?_
  refine xs_iload_1 eL_setArrival_1 ?_
  refine xs_iload_2 eL_setArrival_2 ?_
  refine xs_iload_3 eL_setArrival_3 ?_
  refine xbv_V30 (mi' := mX7_setArrival) (y := yX7_setArrival) eL_setArrival_4 (xw_5 lRL_58 wy_X7_setArrival) rfl ⟨wd_X7_setArrival, by decide, by decide⟩ (by decide) (fun _ => rfl) rfl (Nat.le_of_ble_eq_true rfl) rfl (Z_setArrival hS hT (by omega) (by omega) (by omega) hv (fun S9 _ s9 => ?_))
  rw [eo] at s9
  refine xa_iconst eL_setArrival_7 ?_
  exact xa_iret eL_setArrival_8 rfl ⟨_, rfl, (hq S9 (hB.nw (by rw [up_oth (by omega), up_oth (by omega)]) s9))⟩
set_option maxHeartbeats 400000 in
theorem w_setRules {w : xW} {S C : xS} {B : String → xS → Prop} {A : Int → xS → Prop} {n : Nat} {T q : Int} (hB : BS q C S) (hV : VS 0 n 0 T C) (hT : T ≤ 800000) {e a : Int} (he : 0 ≤ e ∧ e ≤ 99) (ha : 0 ≤ a ∧ a ≤ 50) (hq : ∀ S', BS q (up (up S 1 0 4 e) 1 0 5 a) S' → A 0 S') : Ki w mL_setRules yL_setRules 0 0 [xp 0 0, xi e, xi a] S A B := by
  have hS := hB.V hV
  have eo : o_setRules e a n 0 S = (0, 0, n, 0, up (up S 1 0 4 e) 1 0 5 a) := by unfold o_setRules; rw [if_pos he, if_pos ha]
  have hv : (o_setRules e a n 0 S).1 = 0 := by rw [eo]
  refine K.ofH rfl rfl rfl rfl (Nat.le_of_ble_eq_true rfl) rfl ?_
  refine xs_aload_0 eL_setRules_0 ?_
  refine xs_iload_1 eL_setRules_1 ?_
  refine xs_iload_2 eL_setRules_2 ?_
  refine xbv_V20 (mi' := mX7_setRules) (y := yX7_setRules) eL_setRules_3 (xw_5 lRL_116 wy_X7_setRules) rfl ⟨wd_X7_setRules, by decide, by decide⟩ (by decide) (fun _ => rfl) rfl (Nat.le_of_ble_eq_true rfl) rfl (Z_setRules hS hT (by omega) (by omega) hv (fun S9 _ s9 => ?_))
  rw [eo] at s9
  refine xa_iconst eL_setRules_6 ?_
  exact xa_iret eL_setRules_7 rfl ⟨_, rfl, (hq S9 (hB.nw (by rw [up_oth (by omega), up_oth (by omega)]) s9))⟩
set_option maxHeartbeats 1000000 in
theorem k_builds {w : xW} {S : xS} {B : String → xS → Prop} {A : Int → xS → Prop} {T q : Int} {C : xS} (hB : BS q C S) (hI : BI T 0 C) (hT : T ≤ 100000) (hw : w.2.2.2.2.2.1 < 1000) (hQ : q ≤ 1000) (hq : ∀ D S', LIN (T + 13500) 0 D → BS (q + 30) D S' → A 1 S') : Ki w mL_builds yL_builds 0 0 [xp 30 0] S A B := by
  refine K.of rfl rfl rfl rfl (Nat.le_of_ble_eq_true rfl) rfl ?_
  have lp : ∀ n : Nat, n ≤ 4 → ∀ (C S : xS) (c1 : xV), xcat2 c1 = false → BS (q + 6 * (n : Int)) C S → BI (T + 3000 * (n : Int)) n C → X w mL_builds (xTG w (fun v S' => ∃ a, v = some (xi a) ∧ A a S') B) 0 0 0 [xp 30 0, c1] [] S := by
    refine nloop 4 (fun n hn ih C S c1 j1 hB hI => ?_)
    have hT2 : T + 3000 * (n : Int) ≤ 800000 := by omega
    by_cases h4 : n = 4
    · subst h4
      refine xs_aload_0 eL_builds_0 ?_
      refine g_X9_0 eL_builds_1 lRL_10 ?_
      refine xa_iconst eL_builds_4 ?_
      refine xbi_W20 (mi' := mL_count) (y := yL_count) eL_builds_5 (xw_4 lRL_146 wy_L_count) rfl ⟨wd_L_count, by decide, by decide⟩ (Nat.le_of_ble_eq_true rfl) rfl (w_count1 hB hI.1 hT2 ?_)
      refine xa_iconst eL_builds_8 ?_
      refine xa_icmp_ge (tgt := 93) eL_builds_9 (by decide) (by omega) (by decide) (fun c9 => ?_) (fun c9 => ?_)
      · refine xs_aload_0 eL_builds_93 ?_
        refine g_X9_0 eL_builds_94 lRL_10 ?_
        refine xs_aload_0 eL_builds_97 ?_
        refine xa_bipush eL_builds_98 (by decide) ?_
        refine xbi_V10 (mi' := mL_draw) (y := yL_draw) eL_builds_100 (xw_5 lRL_152 wy_L_draw) rfl ⟨wd_L_draw, by decide, by decide⟩ (by decide) (fun _ => rfl) rfl (Nat.le_of_ble_eq_true rfl) rfl (k_draw hw hB (by omega) (by decide) (fun d1 S1 l1 hB1 => ?_))
        refine xs_aload_0 eL_builds_103 ?_
        refine xa_bipush eL_builds_104 (by decide) ?_
        refine xbi_V10 (mi' := mL_draw) (y := yL_draw) eL_builds_106 (xw_5 lRL_152 wy_L_draw) rfl ⟨wd_L_draw, by decide, by decide⟩ (by decide) (fun _ => rfl) rfl (Nat.le_of_ble_eq_true rfl) rfl (k_draw hw hB1 (by omega) (by decide) (fun d2 S2 l2 hB2 => ?_))
        refine xbi_W30 (mi' := mL_setRules) (y := yL_setRules) eL_builds_109 (xw_4 lRL_160 wy_L_setRules) rfl ⟨wd_L_setRules, by decide, by decide⟩ (Nat.le_of_ble_eq_true rfl) rfl (w_setRules hB2 hI.1 hT2 (by omega) (by omega) (fun S3 hB3 => ?_))
        refine xa_if_ne (tgt := 119) eL_builds_112 (by decide) (by decide) (fun c112 => ?_) (fun c112 => ?_)
        · exfalso; omega
        · refine xa_iconst eL_builds_115 ?_
          refine xa_goto (tgt := 120) eL_builds_116 (by decide) ?_
          exact xa_zret eL_builds_120 rfl (by omega) ⟨_, rfl, (hq _ _ (LIN.mono (BI.L ((hI.bs hB2).rul (by omega) (by omega) (by omega))) (by omega)) (hB3.mono (by omega)))⟩
      · exfalso; omega
    · skip
      refine xs_aload_0 eL_builds_0 ?_
      refine g_X9_0 eL_builds_1 lRL_10 ?_
      refine xa_iconst eL_builds_4 ?_
      refine xbi_W20 (mi' := mL_count) (y := yL_count) eL_builds_5 (xw_4 lRL_146 wy_L_count) rfl ⟨wd_L_count, by decide, by decide⟩ (Nat.le_of_ble_eq_true rfl) rfl (w_count1 hB hI.1 hT2 ?_)
      refine xa_iconst eL_builds_8 ?_
      refine xa_icmp_ge (tgt := 93) eL_builds_9 (by decide) (by omega) (by decide) (fun c9 => ?_) (fun c9 => ?_)
      · exfalso; omega
      · refine xs_aload_0 eL_builds_12 ?_
        refine g_X9_0 eL_builds_13 lRL_10 ?_
        refine xa_iconst eL_builds_16 ?_
        refine xbi_W20 (mi' := mL_count) (y := yL_count) eL_builds_17 (xw_4 lRL_146 wy_L_count) rfl ⟨wd_L_count, by decide, by decide⟩ (Nat.le_of_ble_eq_true rfl) rfl (w_count1 hB hI.1 hT2 ?_)
        refine xs_istore_1 eL_builds_20 rfl ?_
        refine xs_aload_0 eL_builds_21 ?_
        refine g_X9_0 eL_builds_22 lRL_10 ?_
        refine xs_aload_0 eL_builds_25 ?_
        refine xa_sipush eL_builds_26 (by decide) ?_
        refine xbi_V10 (mi' := mL_draw) (y := yL_draw) eL_builds_29 (xw_5 lRL_152 wy_L_draw) rfl ⟨wd_L_draw, by decide, by decide⟩ (by decide) (fun _ => rfl) rfl (Nat.le_of_ble_eq_true rfl) rfl (k_draw hw hB (by omega) (by decide) (fun d1 S1 l1 hB1 => ?_))
        refine xs_aload_0 eL_builds_32 ?_
        refine xa_bipush eL_builds_33 (by decide) ?_
        refine xbi_V10 (mi' := mL_draw) (y := yL_draw) eL_builds_35 (xw_5 lRL_152 wy_L_draw) rfl ⟨wd_L_draw, by decide, by decide⟩ (by decide) (fun _ => rfl) rfl (Nat.le_of_ble_eq_true rfl) rfl (k_draw hw hB1 (by omega) (by decide) (fun d2 S2 l2 hB2 => ?_))
        refine xs_aload_0 eL_builds_38 ?_
        refine xa_bipush eL_builds_39 (by decide) ?_
        refine xbi_V10 (mi' := mL_draw) (y := yL_draw) eL_builds_41 (xw_5 lRL_152 wy_L_draw) rfl ⟨wd_L_draw, by decide, by decide⟩ (by decide) (fun _ => rfl) rfl (Nat.le_of_ble_eq_true rfl) rfl (k_draw hw hB2 (by omega) (by decide) (fun d3 S3 l3 hB3 => ?_))
        refine xbi_W40 (mi' := mL_addProcess) (y := yL_addProcess) eL_builds_44 (xw_4 lRL_155 wy_L_addProcess) rfl ⟨wd_L_addProcess, by decide, by decide⟩ (Nat.le_of_ble_eq_true rfl) rfl (w_addProcess hB3 hI.1 hT2 (by omega) (by omega) (by omega) (by omega) (fun S4 hB4 => ?_))
        have hI4 := (hI.bs hB3).ent (by omega) (by omega) (show 0 ≤ (d1 : Int) ∧ (d1 : Int) ≤ 4999 by omega) (show 0 ≤ (d2 : Int) ∧ (d2 : Int) ≤ 9999 by omega) (show 0 ≤ (d3 : Int) ∧ (d3 : Int) ≤ 99 by omega)
        refine xs_iload_1 eL_builds_47 ?_
        refine xa_icmp_ne (tgt := 88) eL_builds_48 (by decide) (by omega) (by omega) (fun c48 => ?_) (fun c48 => ?_)
        · exfalso; omega
        · refine xs_aload_0 eL_builds_51 ?_
          refine g_X9_0 eL_builds_52 lRL_10 ?_
          refine xs_iload_1 eL_builds_55 ?_
          refine xs_aload_0 eL_builds_56 ?_
          refine xa_iconst eL_builds_57 ?_
          refine xbi_V10 (mi' := mL_draw) (y := yL_draw) eL_builds_58 (xw_5 lRL_152 wy_L_draw) rfl ⟨wd_L_draw, by decide, by decide⟩ (by decide) (fun _ => rfl) rfl (Nat.le_of_ble_eq_true rfl) rfl (k_draw hw hB4 (by omega) (by decide) (fun d5 S5 l5 hB5 => ?_))
          refine xa_if_ne (tgt := 68) eL_builds_61 (by decide) (by omega) (fun c61 => ?_) (fun c61 => ?_)
          · refine xa_iconst eL_builds_68 ?_
            refine xs_aload_0 eL_builds_69 ?_
            refine xa_bipush eL_builds_70 (by decide) ?_
            refine xbi_V10 (mi' := mL_draw) (y := yL_draw) eL_builds_72 (xw_5 lRL_152 wy_L_draw) rfl ⟨wd_L_draw, by decide, by decide⟩ (by decide) (fun _ => rfl) rfl (Nat.le_of_ble_eq_true rfl) rfl (k_draw hw hB5 (by omega) (by decide) (fun d6 S6 l6 hB6 => ?_))
            refine xa_iadd eL_builds_75 ?_
            refine xs_aload_0 eL_builds_76 ?_
            refine xa_bipush eL_builds_77 (by decide) ?_
            refine xbi_V10 (mi' := mL_draw) (y := yL_draw) eL_builds_79 (xw_5 lRL_152 wy_L_draw) rfl ⟨wd_L_draw, by decide, by decide⟩ (by decide) (fun _ => rfl) rfl (Nat.le_of_ble_eq_true rfl) rfl (k_draw hw (show BS (q + 6 * (n : Int) + 5) (entS 0 n (d1 : Int) (d2 : Int) (d3 : Int) S3) _ by first | exact hB6.mono (by omega) | exact hB5.mono (by omega)) (by omega) (by decide) (fun d7 S7 l7 hB7 => ?_))
            refine xbi_W40 (mi' := mL_setArrival) (y := yL_setArrival) eL_builds_82 (xw_4 lRL_158 wy_L_setArrival) rfl ⟨wd_L_setArrival, by decide, by decide⟩ (Nat.le_of_ble_eq_true rfl) rfl (w_setArrival hB7 hI4.1 (by omega) (show n < n + 1 by omega) (by omega) (by omega) (fun S8 hB8 => ?_))
            refine xa_if_eq (tgt := 90) eL_builds_85 (by decide) (by decide) (fun c85 => ?_) (fun c85 => ?_)
            · refine xa_goto (tgt := 0) eL_builds_90 (by decide) ?_
              first | (have h9 := (hI4.bs hB7).arr (p := n) (e := 0) (a := (d7 : Int)) (by omega) (by omega) (by omega) (by omega); rw [show T + 3000 * (n : Int) + 1500 + 1500 = T + 3000 * ((n + 1 : Nat) : Int) by omega] at h9; exact ih (n + 1) (by omega) (by omega) _ _ _ rfl (hB8.mono (by omega)) h9) | (have h9 := (hI4.bs hB7).arr (p := n) (e := 1 + (d6 : Int)) (a := (d7 : Int)) (by omega) (by omega) (by omega) (by omega); rw [show T + 3000 * (n : Int) + 1500 + 1500 = T + 3000 * ((n + 1 : Nat) : Int) by omega] at h9; exact ih (n + 1) (by omega) (by omega) _ _ _ rfl (hB8.mono (by omega)) h9)
            · exfalso; omega
          · refine xa_iconst eL_builds_64 ?_
            refine xa_goto (tgt := 76) eL_builds_65 (by decide) ?_
            refine xs_aload_0 eL_builds_76 ?_
            refine xa_bipush eL_builds_77 (by decide) ?_
            refine xbi_V10 (mi' := mL_draw) (y := yL_draw) eL_builds_79 (xw_5 lRL_152 wy_L_draw) rfl ⟨wd_L_draw, by decide, by decide⟩ (by decide) (fun _ => rfl) rfl (Nat.le_of_ble_eq_true rfl) rfl (k_draw hw (show BS (q + 6 * (n : Int) + 5) (entS 0 n (d1 : Int) (d2 : Int) (d3 : Int) S3) _ by first | exact hB6.mono (by omega) | exact hB5.mono (by omega)) (by omega) (by decide) (fun d7 S7 l7 hB7 => ?_))
            refine xbi_W40 (mi' := mL_setArrival) (y := yL_setArrival) eL_builds_82 (xw_4 lRL_158 wy_L_setArrival) rfl ⟨wd_L_setArrival, by decide, by decide⟩ (Nat.le_of_ble_eq_true rfl) rfl (w_setArrival hB7 hI4.1 (by omega) (show n < n + 1 by omega) (by omega) (by omega) (fun S8 hB8 => ?_))
            refine xa_if_eq (tgt := 90) eL_builds_85 (by decide) (by decide) (fun c85 => ?_) (fun c85 => ?_)
            · refine xa_goto (tgt := 0) eL_builds_90 (by decide) ?_
              first | (have h9 := (hI4.bs hB7).arr (p := n) (e := 0) (a := (d7 : Int)) (by omega) (by omega) (by omega) (by omega); rw [show T + 3000 * (n : Int) + 1500 + 1500 = T + 3000 * ((n + 1 : Nat) : Int) by omega] at h9; exact ih (n + 1) (by omega) (by omega) _ _ _ rfl (hB8.mono (by omega)) h9) | (have h9 := (hI4.bs hB7).arr (p := n) (e := 1 + (d6 : Int)) (a := (d7 : Int)) (by omega) (by omega) (by omega) (by omega); rw [show T + 3000 * (n : Int) + 1500 + 1500 = T + 3000 * ((n + 1 : Nat) : Int) by omega] at h9; exact ih (n + 1) (by omega) (by omega) _ _ _ rfl (hB8.mono (by omega)) h9)
            · exfalso; omega
  exact lp 0 (by omega) C S _ rfl (by rw [show q + 6 * ((0 : Nat) : Int) = q by omega]; exact hB) (by rw [show T + 3000 * ((0 : Nat) : Int) = T by omega]; exact hI)
set_option maxHeartbeats 8000000 in
theorem k_holds {w : xW} {S : xS} {B : String → xS → Prop} {A : Int → xS → Prop} {T : Int} (hI : BI T 0 S) (hT : T ≤ 50000) (h2 : S 30 0 2 = 0) (hw : w.2.2.2.2.2.1 < 1000) (hq : ∀ S', A 1 S') : Ki w mL_holds yL_holds 600 3600 [xp 30 0, xp 52 0] S A B := by
  refine K.of rfl rfl rfl rfl (Nat.le_of_ble_eq_true rfl) rfl ?_
  have fin : ∀ (T q : Int) (N : Nat) (C S : xS) (c2 : xV), LIN T N C → T ≤ 600000 → q ≤ 100000 → BS q C S → X w mL_holds (xTG w (fun v S' => ∃ a, v = some (xi a) ∧ A a S') B) 6 36 162 [xp 30 0, xp 52 0, c2] [] S := by
    intro T q N C S c2 hL hT hQ hB
    refine xs_aload_0 eL_holds_162 ?_
    refine xbi_V0 (mi' := mL_foretells) (y := yL_foretells) eL_holds_163 (xw_5 lRL_251 wy_L_foretells) rfl ⟨wd_L_foretells, by decide, by decide⟩ (by decide) (fun _ => rfl) rfl (Nat.le_of_ble_eq_true rfl) rfl ⟨by decide, by decide⟩ (k_foretells hB hL (by omega) hw (by omega) (fun D S8 hL8 hB8 => ?_))
    · refine xa_if_eq (tgt := 188) eL_holds_166 (by decide) (by decide) (fun c166 => ?_) (fun c166 => ?_)
      · exact absurd c166 (by decide)
      · refine xs_aload_0 eL_holds_169 ?_
        refine g_X9_0 eL_holds_170 lRL_10 ?_
        refine xa_sipush eL_holds_173 (by decide) ?_
        refine xbi_W2 (mi' := mL_run) (y := yL_run) eL_holds_176 (xw_4 lRL_204 wy_L_run) rfl ⟨wd_L_run, by decide, by decide⟩ (Nat.le_of_ble_eq_true rfl) rfl ⟨by decide, by decide⟩ (w_runX hB8 hL8.1 (by omega) (fun S9 hB9 => ?_))
        refine xa_bipush eL_holds_179 (by decide) ?_
        refine xa_icmp_ne (tgt := 188) eL_holds_181 (by decide) (by decide) (by decide) (fun c181 => ?_) (fun c181 => ?_)
        · exfalso; omega
        · refine xa_iconst eL_holds_184 ?_
          refine xa_goto (tgt := 189) eL_holds_185 (by decide) ?_
          exact xa_zret eL_holds_189 rfl (by omega) ⟨_, rfl, (hq _)⟩
  have lp : ∀ i : Nat, i ≤ 60 → ∀ (T q : Int) (N : Nat) (C S : xS), LIN T N C → T ≤ 100000 + 6300 * (i : Int) → q ≤ 1000 + 60 * (i : Int) → BS q C S → X w mL_holds (xTG w (fun v S' => ∃ a, v = some (xi a) ∧ A a S') B) (9 * (60 - i) + 10) (54 * (60 - i) + 60) 30 [xp 30 0, xp 52 0, xi (i : Int)] [] S := by
    refine nloop 60 (fun i hi ih T q N C S hL hT hQ hB => ?_)
    by_cases h60 : i = 60
    · subst h60
      refine xs_iload_2 eL_holds_30 ?_
      refine xa_bipush eL_holds_31 (by decide) ?_
      refine xa_icmp_ge (tgt := 162) eL_holds_33 (by decide) (by omega) (by decide) (fun c33 => ?_) (fun c33 => ?_)
      · exact X_mono (fin T q N C S _ hL (by omega) (by omega) hB)
      · exfalso; omega
    · skip
      have r6 : ∀ (T9 q9 : Int) (N : Nat) (C S : xS), LIN T9 N C → T9 ≤ T + 6300 → q9 ≤ q + 60 → BS q9 C S → X w mL_holds (xTG w (fun v S' => ∃ a, v = some (xi a) ∧ A a S') B) (9 * (60 - (i + 1)) + 10 + 0) (54 * (60 - (i + 1)) + 60 + 0) 156 [xp 30 0, xp 52 0, xi (i : Int)] [] S := by
        intro T9 q9 N C S hL9 hT9 hQ9 hB9
        refine xs_iinc_2 eL_holds_156 rfl ?_
        refine xa_goto (tgt := 30) eL_holds_159 (by decide) ?_
        exact X_mono (ih (i + 1) (by omega) (by omega) T9 q9 N C S hL9 (by omega) (by omega) hB9) (by omega) (by omega)
      have r5 : ∀ (T9 q9 : Int) (N : Nat) (C S : xS), LIN T9 N C → T9 ≤ T + 6300 → q9 ≤ q + 50 → BS q9 C S → X w mL_holds (xTG w (fun v S' => ∃ a, v = some (xi a) ∧ A a S') B) (9 * (60 - (i + 1)) + 10 + 5) (54 * (60 - (i + 1)) + 60 + 30) 138 [xp 30 0, xp 52 0, xi (i : Int)] [] S := by
        intro T9 q9 N C S hL9 hT9 hQ9 hB9
        refine xs_iload_2 eL_holds_138 ?_
        refine xa_bipush eL_holds_139 (by decide) ?_
        refine xa_irem eL_holds_141 (by omega) (by decide) (by decide) ?_
        refine xa_bipush eL_holds_142 (by decide) ?_
        refine xa_icmp_ne (tgt := 156) eL_holds_144 (by decide) (by have h1 := Int.tmod_nonneg 20 (show 0 ≤ (i : Int) by omega); have h3 := Int.tmod_lt_of_pos (i : Int) (show (0 : Int) < 20 by decide); omega) (by decide) (fun c144 => ?_) (fun c144 => ?_)
        · first | exact X_mono (r6 _ _ _ _ _ hL8 (by omega) (by omega) hB8) (by omega) (by omega) | exact X_mono (r6 _ _ _ _ _ hL9 (by omega) (by omega) hB9) (by omega) (by omega)
        · refine xs_aload_0 eL_holds_147 ?_
          refine xbi_V0 (mi' := mL_foretells) (y := yL_foretells) eL_holds_148 (xw_5 lRL_251 wy_L_foretells) rfl ⟨wd_L_foretells, by decide, by decide⟩ (by decide) (fun _ => rfl) rfl (Nat.le_of_ble_eq_true rfl) rfl ⟨by omega, by omega⟩ (k_foretells hB9 hL9 (by omega) hw (by omega) (fun D S8 hL8 hB8 => ?_))
          · refine xa_if_ne (tgt := 156) eL_holds_151 (by decide) (by decide) (fun c151 => ?_) (fun c151 => ?_)
            · first | exact X_mono (r6 _ _ _ _ _ hL8 (by omega) (by omega) hB8) (by omega) (by omega) | exact X_mono (r6 _ _ _ _ _ hL9 (by omega) (by omega) hB9) (by omega) (by omega)
            · exact absurd c151 (by decide)
      have r4 : ∀ (T9 q9 : Int) (N : Nat) (C S : xS), LIN T9 N C → T9 ≤ T + 6100 → q9 ≤ q + 40 → BS q9 C S → X w mL_holds (xTG w (fun v S' => ∃ a, v = some (xi a) ∧ A a S') B) (9 * (60 - (i + 1)) + 10 + 5) (54 * (60 - (i + 1)) + 60 + 30) 109 [xp 30 0, xp 52 0, xi (i : Int)] [] S := by
        intro T9 q9 N C S hL9 hT9 hQ9 hB9
        refine xs_aload_0 eL_holds_109 ?_
        refine xa_bipush eL_holds_110 (by decide) ?_
        refine xbi_V10 (mi' := mL_draw) (y := yL_draw) eL_holds_112 (xw_5 lRL_152 wy_L_draw) rfl ⟨wd_L_draw, by decide, by decide⟩ (by decide) (fun _ => rfl) rfl (Nat.le_of_ble_eq_true rfl) rfl (k_draw hw hB9 (by omega) (by decide) (fun d1 S1 l1 hB1 => ?_))
        refine xa_if_ne (tgt := 138) eL_holds_115 (by decide) (by omega) (fun c115 => ?_) (fun c115 => ?_)
        · first | exact r5 _ _ _ _ _ hL8 (by omega) (by omega) hB8 | exact r5 _ _ _ _ _ hL9 (by omega) (by omega) hB1
        · refine xs_aload_0 eL_holds_118 ?_
          refine g_X9_0 eL_holds_119 lRL_10 ?_
          refine xa_iconst eL_holds_122 ?_
          refine xs_aload_0 eL_holds_123 ?_
          refine xa_bipush eL_holds_124 (by decide) ?_
          refine xbi_V10 (mi' := mL_draw) (y := yL_draw) eL_holds_126 (xw_5 lRL_152 wy_L_draw) rfl ⟨wd_L_draw, by decide, by decide⟩ (by decide) (fun _ => rfl) rfl (Nat.le_of_ble_eq_true rfl) rfl (k_draw hw hB1 (by omega) (by decide) (fun d2 S2 l2 hB2 => ?_))
          refine xa_iadd eL_holds_129 ?_
          obtain ⟨m, hm⟩ : ∃ m : Nat, 1 + (d2 : Int) = (m : Int) := ⟨1 + d2, by omega⟩
          rw [hm]
          refine xbi_W20 (mi' := mL_run) (y := yL_run) eL_holds_130 (xw_4 lRL_204 wy_L_run) rfl ⟨wd_L_run, by decide, by decide⟩ (Nat.le_of_ble_eq_true rfl) rfl (w_run hB2 hL9.1 (by omega) (m := m) (by omega) (fun S8 hB8 => ?_))
          have hS2 := (hB2.L hL9)
          have hL8 := hS2.its m
          have hmono := hL8.2
          replace hL8 := hL8.1
          have hg8 := hL8.1.2.2.2.1
          have hg2 := hS2.1.2.2.2.1
          unfold GQ at hg8 hg2
          generalize itr (tckS 0 4 N) m S2 = D8 at hB8 hL8 hg8 hmono ⊢
          refine xa_if_ge (tgt := 138) eL_holds_133 (by decide) (by omega) (fun c133 => ?_) (fun c133 => ?_)
          · first | exact r5 _ _ _ _ _ hL8 (by omega) (by omega) hB8 | exact r5 _ _ _ _ _ hL9 (by omega) (by omega) hB1
          · exfalso; omega
      have r3 : ∀ (T9 q9 : Int) (N : Nat) (C S : xS), LIN T9 N C → T9 ≤ T + 6000 → q9 ≤ q + 38 → BS q9 C S → X w mL_holds (xTG w (fun v S' => ∃ a, v = some (xi a) ∧ A a S') B) (9 * (60 - (i + 1)) + 10 + 6) (54 * (60 - (i + 1)) + 60 + 36) 100 [xp 30 0, xp 52 0, xi (i : Int)] [] S := by
        intro T9 q9 N C S hL9 hT9 hQ9 hB9
        refine xs_aload_0 eL_holds_100 ?_
        refine xbi_V0 (mi' := mL_ticks) (y := yL_ticks) eL_holds_101 (xw_5 lRL_248 wy_L_ticks) rfl ⟨wd_L_ticks, by decide, by decide⟩ (by decide) (fun _ => rfl) rfl (Nat.le_of_ble_eq_true rfl) rfl ⟨by omega, by omega⟩ (k_ticks hB9 hL9 (by omega) (fun D S8 hL8 hB8 => ?_))
        · refine xa_if_ne (tgt := 109) eL_holds_104 (by decide) (by decide) (fun c104 => ?_) (fun c104 => ?_)
          · exact X_mono (r4 _ _ _ _ _ hL8 (by omega) (by omega) hB8) (by omega) (by omega)
          · exact absurd c104 (by decide)
      have r2 : ∀ (T9 q9 : Int) (N : Nat) (C S : xS), LIN T9 N C → T9 ≤ T + 4500 → q9 ≤ q + 32 → BS q9 C S → X w mL_holds (xTG w (fun v S' => ∃ a, v = some (xi a) ∧ A a S') B) (9 * (60 - (i + 1)) + 10 + 6) (54 * (60 - (i + 1)) + 60 + 36) 67 [xp 30 0, xp 52 0, xi (i : Int)] [] S := by
        intro T9 q9 N C S hL9 hT9 hQ9 hB9
        refine xs_aload_0 eL_holds_67 ?_
        refine xa_bipush eL_holds_68 (by decide) ?_
        refine xbi_V10 (mi' := mL_draw) (y := yL_draw) eL_holds_70 (xw_5 lRL_152 wy_L_draw) rfl ⟨wd_L_draw, by decide, by decide⟩ (by decide) (fun _ => rfl) rfl (Nat.le_of_ble_eq_true rfl) rfl (k_draw hw hB9 (by omega) (by decide) (fun d1 S1 l1 hB1 => ?_))
        refine xa_if_ne (tgt := 100) eL_holds_73 (by decide) (by omega) (fun c73 => ?_) (fun c73 => ?_)
        · first | exact r3 _ _ _ _ _ hL8 (by omega) (by omega) hB8 | exact r3 _ _ _ _ _ hL9 (by omega) (by omega) hB1
        · refine xs_aload_0 eL_holds_76 ?_
          refine g_X9_0 eL_holds_77 lRL_10 ?_
          refine xs_aload_0 eL_holds_80 ?_
          refine xa_iconst eL_holds_81 ?_
          refine xbi_V10 (mi' := mL_draw) (y := yL_draw) eL_holds_82 (xw_5 lRL_152 wy_L_draw) rfl ⟨wd_L_draw, by decide, by decide⟩ (by decide) (fun _ => rfl) rfl (Nat.le_of_ble_eq_true rfl) rfl (k_draw hw hB1 (by omega) (by decide) (fun p S2 l2 hB2 => ?_))
          refine xa_iconst eL_holds_85 ?_
          refine xs_aload_0 eL_holds_86 ?_
          refine xa_bipush eL_holds_87 (by decide) ?_
          refine xbi_V10 (mi' := mL_draw) (y := yL_draw) eL_holds_89 (xw_5 lRL_152 wy_L_draw) rfl ⟨wd_L_draw, by decide, by decide⟩ (by decide) (fun _ => rfl) rfl (Nat.le_of_ble_eq_true rfl) rfl (k_draw hw hB2 (by omega) (by decide) (fun d3 S3 l3 hB3 => ?_))
          refine xa_iadd eL_holds_92 ?_
          refine xbi_W30 (mi' := mL_addWork) (y := yL_addWork) eL_holds_93 (xw_4 lRL_246 wy_L_addWork) rfl ⟨wd_L_addWork, by decide, by decide⟩ (Nat.le_of_ble_eq_true rfl) rfl (w_addWork hB3 hL9.1 (by omega) (p := p) (by omega) (by omega) (fun S8 hB8 => ?_))
          have hL8 := (hB3.L hL9).wrk (by omega) (show p < 4 by omega) (b := 1 + (d3 : Int)) (by omega)
          have hpq := (hB3.L hL9).1.P (show p < 4 by omega)
          unfold PQ at hpq
          have hx : 1 ≤ xmin 9999 (S3 4 p 1 + (1 + (d3 : Int))) ∧ xmin 9999 (S3 4 p 1 + (1 + (d3 : Int))) ≤ 9999 := by unfold xmin; split <;> omega
          generalize up S3 4 p 1 (xmin 9999 (S3 4 p 1 + (1 + (d3 : Int)))) = D8 at hB8 hL8
          refine xa_iconst eL_holds_96 ?_
          refine xa_icmp_lt (tgt := 107) eL_holds_97 (by decide) (by omega) (by decide) (fun c97 => ?_) (fun c97 => ?_)
          · exfalso; omega
          · first | exact r3 _ _ _ _ _ hL8 (by omega) (by omega) hB8 | exact r3 _ _ _ _ _ hL9 (by omega) (by omega) hB1
      have r1 : ∀ (T9 q9 : Int) (N : Nat) (C S : xS), LIN T9 N C → T9 ≤ T + 1500 → q9 ≤ q + 20 → BS q9 C S → X w mL_holds (xTG w (fun v S' => ∃ a, v = some (xi a) ∧ A a S') B) (9 * (60 - (i + 1)) + 10 + 8) (54 * (60 - (i + 1)) + 60 + 48) 52 [xp 30 0, xp 52 0, xi (i : Int)] [] S := by
        intro T9 q9 N C S hL9 hT9 hQ9 hB9
        refine xs_aload_0 eL_holds_52 ?_
        refine xa_iconst eL_holds_53 ?_
        refine xbi_V10 (mi' := mL_draw) (y := yL_draw) eL_holds_54 (xw_5 lRL_152 wy_L_draw) rfl ⟨wd_L_draw, by decide, by decide⟩ (by decide) (fun _ => rfl) rfl (Nat.le_of_ble_eq_true rfl) rfl (k_draw hw hB9 (by omega) (by decide) (fun d1 S1 l1 hB1 => ?_))
        refine xa_if_ne (tgt := 67) eL_holds_57 (by decide) (by omega) (fun c57 => ?_) (fun c57 => ?_)
        · first | exact X_mono (r2 _ _ _ _ _ hL8 (by omega) (by omega) hB8) (by omega) (by omega) | exact X_mono (r2 _ _ _ _ _ hL9 (by omega) (by omega) hB1) (by omega) (by omega)
        · refine xs_aload_0 eL_holds_60 ?_
          refine xbi_V0 (mi' := mL_trades) (y := yL_trades) eL_holds_61 (xw_5 lRL_243 wy_L_trades) rfl ⟨wd_L_trades, by decide, by decide⟩ (by decide) (fun _ => rfl) rfl (Nat.le_of_ble_eq_true rfl) rfl ⟨by omega, by omega⟩ (k_trades hB1 hL9 (by omega) hw (by omega) (fun D N8 S8 hL8 hB8 => ?_))
          · refine xa_if_eq (tgt := 107) eL_holds_64 (by decide) (by decide) (fun c64 => ?_) (fun c64 => ?_)
            · exact absurd c64 (by decide)
            · first | exact X_mono (r2 _ _ _ _ _ hL8 (by omega) (by omega) hB8) (by omega) (by omega) | exact X_mono (r2 _ _ _ _ _ hL9 (by omega) (by omega) hB1) (by omega) (by omega)
      refine xs_iload_2 eL_holds_30 ?_
      refine xa_bipush eL_holds_31 (by decide) ?_
      refine xa_icmp_ge (tgt := 162) eL_holds_33 (by decide) (by omega) (by decide) (fun c33 => ?_) (fun c33 => ?_)
      · exfalso; omega
      · refine xs_aload_0 eL_holds_36 ?_
        refine xa_bipush eL_holds_37 (by decide) ?_
        refine xbi_V10 (mi' := mL_draw) (y := yL_draw) eL_holds_39 (xw_5 lRL_152 wy_L_draw) rfl ⟨wd_L_draw, by decide, by decide⟩ (by decide) (fun _ => rfl) rfl (Nat.le_of_ble_eq_true rfl) rfl (k_draw hw hB (by omega) (by decide) (fun d1 S1 l1 hB1 => ?_))
        refine xa_if_ne (tgt := 52) eL_holds_42 (by decide) (by omega) (fun c42 => ?_) (fun c42 => ?_)
        · first | exact X_mono (r1 _ _ _ _ _ hL8 (by omega) (by omega) hB8) (by omega) (by omega) | exact X_mono (r1 _ _ _ _ _ hL (by omega) (by omega) hB1) (by omega) (by omega)
        · refine xs_aload_0 eL_holds_45 ?_
          refine xbi_V0 (mi' := mL_vows) (y := yL_vows) eL_holds_46 (xw_5 lRL_173 wy_L_vows) rfl ⟨wd_L_vows, by decide, by decide⟩ (by decide) (fun _ => rfl) rfl (Nat.le_of_ble_eq_true rfl) rfl ⟨by omega, by omega⟩ (k_vows hB1 hL (by omega) hw (by omega) (fun D N8 S8 hL8 hB8 => ?_))
          · refine xa_if_eq (tgt := 107) eL_holds_49 (by decide) (by decide) (fun c49 => ?_) (fun c49 => ?_)
            · exact absurd c49 (by decide)
            · first | exact X_mono (r1 _ _ _ _ _ hL8 (by omega) (by omega) hB8) (by omega) (by omega) | exact X_mono (r1 _ _ _ _ _ hL (by omega) (by omega) hB1) (by omega) (by omega)
  have hB0 : BS 0 (up S 30 0 1 1) (up S 30 0 1 1) := ⟨fun _ _ _ _ _ => rfl, up_same _ _ _ _ _, by rw [up_f (by decide), h2]; decide, by rw [up_f (by decide), h2]; decide⟩
  have hI0 : BI T 0 (up S 30 0 1 1) := by
    obtain ⟨h1, h3, h4, h5, h6⟩ := hI
    exact ⟨h1.cls (fun x y e => up_oth (by omega)), by rw [up_k (by decide), up_k (by decide), up_k (by decide), up_k (by decide)]; exact h3, fun p hp => absurd hp (Nat.not_lt_zero p), fun i hi => by rw [up_k (by decide)]; exact h5 i hi, fun j hj => by rw [up_k (by decide)]; exact h6 j hj⟩
  refine xs_aload_0 eL_holds_0 ?_
  refine xs_aload_1 eL_holds_1 ?_
  refine p_X9_1 eL_holds_2 lRL_25 ?_
  refine xs_aload_0 eL_holds_5 ?_
  refine xbi_V00 (mi' := mL_builds) (y := yL_builds) eL_holds_6 (xw_5 lRL_240 wy_L_builds) rfl ⟨wd_L_builds, by decide, by decide⟩ (by decide) (fun _ => rfl) rfl (Nat.le_of_ble_eq_true rfl) rfl (k_builds hB0 hI0 (by omega) hw (by decide) (fun D S1 hL1 hB1 => ?_))
  · refine xa_if_eq (tgt := 26) eL_holds_9 (by decide) (by decide) (fun c9 => ?_) (fun c9 => ?_)
    · exact absurd c9 (by decide)
    · refine xs_aload_0 eL_holds_12 ?_
      refine xbi_V0 (mi' := mL_vows) (y := yL_vows) eL_holds_13 (xw_5 lRL_173 wy_L_vows) rfl ⟨wd_L_vows, by decide, by decide⟩ (by decide) (fun _ => rfl) rfl (Nat.le_of_ble_eq_true rfl) rfl ⟨by decide, by decide⟩ (k_vows hB1 hL1 (by omega) hw (by omega) (fun D2 N2 S2 hL2 hB2 => ?_))
      · refine xa_if_eq (tgt := 26) eL_holds_16 (by decide) (by decide) (fun c16 => ?_) (fun c16 => ?_)
        · exact absurd c16 (by decide)
        · refine xs_aload_0 eL_holds_19 ?_
          refine xbi_V0 (mi' := mL_vows) (y := yL_vows) eL_holds_20 (xw_5 lRL_173 wy_L_vows) rfl ⟨wd_L_vows, by decide, by decide⟩ (by decide) (fun _ => rfl) rfl (Nat.le_of_ble_eq_true rfl) rfl ⟨by decide, by decide⟩ (k_vows hB2 hL2 (by omega) hw (by omega) (fun D3 N3 S3 hL3 hB3 => ?_))
          · refine xa_if_ne (tgt := 28) eL_holds_23 (by decide) (by decide) (fun c23 => ?_) (fun c23 => ?_)
            · refine xa_iconst eL_holds_28 ?_
              refine xs_istore_2 eL_holds_29 rfl ?_
              exact X_mono (lp 0 (by omega) _ _ _ _ _ hL3 (by omega) (by omega) hB3)
            · exact absurd c23 (by decide)
