/-! the constructor of Timeline -/
/-! the constructor of Timeline -/
def zT (w : xW) (t : Nat) (E : zE) (i : Nat) : zE := fun k j => if k = 10 ∧ 32 * t ≤ j ∧ j < 32 * t + i then .inr (1, List.replicate 17 (.int 0)) else if k = 23 ∧ j = t then .inl (w.2.2.1 4, (21, .inr (.inr (.inr (.inr fun f => if f < i then some (w.1 10 (32 * t + f)) else none))))) else if k = 2 ∧ j = t then .inr (5, [.ref (w.1 23 t), .int 0, .int 0]) else E k j
def zTD (t : Nat) (D : zD) (i : Nat) : zD := (D ++ [(23, t)]) ++ (List.range i).map (fun f => (10, 32 * t + f))
theorem zTD_s {t i : Nat} {D : zD} : zTD t D (i + 1) = zTD t D i ++ [(10, 32 * t + i)] := by
  unfold zTD
  rw [List.range_succ, List.map_append, List.append_assoc (D ++ [(23, t)])]
  rfl
theorem zTD_in {t i : Nat} {D : zD} {q : Nat × Nat} (h : q ∈ zTD t D i) : q ∈ D ∨ q = (23, t) ∨ (q.1 = 10 ∧ 32 * t ≤ q.2 ∧ q.2 < 32 * t + i) := by
  unfold zTD at h
  rcases List.mem_append.mp h with h | h
  · rcases List.mem_append.mp h with h | h
    · exact Or.inl h
    · exact Or.inr (Or.inl (List.mem_singleton.mp h))
  · obtain ⟨f, hf, rfl⟩ := List.mem_map.mp h
    have := List.mem_range.mp hf
    exact Or.inr (Or.inr ⟨rfl, by simp, by simp; omega⟩)
theorem zTD_l {t i : Nat} {D : zD} {q : Nat × Nat} (h : q ∈ D) : q ∈ zTD t D i := List.mem_append_left _ (List.mem_append_left _ h)
theorem zTD_m {t i : Nat} {D : zD} : (23, t) ∈ zTD t D i := List.mem_append_left _ (List.mem_append_right _ List.mem_cons_self)
/-- what a new timeline asks of the world -/
def zTq (w : xW) (t z : Nat) (D : zD) : Prop := t < 8 ∧ (23, t) ∉ D ∧ (∀ f, f < 21 → (10, 32 * t + f) ∉ D) ∧ w.1 23 t = z ∧ ∀ f, f < 21 → w.1 10 (32 * t + f) = z + 1 + f
theorem k_X5_init {w : xW} {D : zD} {E : zE} {z t : Nat} (hm : (2, t) ∈ D) (he : E 2 t = .inr (5, [.null, .int 0, .int 0])) (hq : zTq w t z D) : KZ w mX5_init yX5_init 22 378 [xp 2 t] D E z (zTD t D 21) (zT w t E 21) (z + 22) := by
  obtain ⟨ht, hn, hn2, hz, hz2⟩ := hq
  have lp : ∀ i : Nat, i ≤ 21 → Z w True mX5_init (zTG w (zTD t D 21) (zT w t E 21) (z + 22)) (21 - i) (357 - 17 * i) 15 [xp 2 t, xi (i : Int)] [] (zTD t D i) (zT w t E i) (z + 1 + i) := by
    refine nloop 21 (fun i hi ih => ?_)
    refine za_iloadN (i := 1) eX5_init_15 rfl rfl ?_
    refine za_bipush eX5_init_16 (by decide) ?_
    refine za_icmp_ge (tgt := 40) eX5_init_18 (by decide) (by omega) (by decide) (fun c => ?_) (fun c => ?_)
    · obtain rfl : i = 21 := by omega
      exact za_vret eX5_init_40 rfl
    · refine za_aloadN (i := 0) eX5_init_21 rfl rfl ?_
      refine za_get (v := xp 23 t) (T := TX5) (N := 3) (C := RX5) (ci := 5) (f := 0) (fs := [.ref (w.1 23 t), .int 0, .int 0]) eX5_init_22 lRX5_13 xin_X5 rfl (by decide) (zTD_l hm) (by unfold zT; rw [if_neg (by omega), if_neg (by omega), if_pos ⟨rfl, rfl⟩]) rfl (by unfold xok xval; simp; omega) ?_
      refine za_iloadN (i := 1) eX5_init_25 rfl rfl ?_
      refine za_new (x := 10) (y := 32 * t + i) (T := TX1) (N := 17) (C := RX1) (ci := 1) (ty0 := tyX1) (fs := List.replicate 17 (.int 0)) eX5_init_26 (zw_3 (xtb_in (i := 44) (by decide +kernel) (by decide +kernel)) (xtb_in (i := 46) (by decide +kernel) (by decide +kernel)) li_RX1) xin_X1 tyX1_ok rfl (fun j hj => by rcases (show j = 0 ∨ j = 1 ∨ j = 2 ∨ j = 3 ∨ j = 4 ∨ j = 5 ∨ j = 6 ∨ j = 7 ∨ j = 8 ∨ j = 9 ∨ j = 10 ∨ j = 11 ∨ j = 12 ∨ j = 13 ∨ j = 14 ∨ j = 15 ∨ j = 16 by omega) with rfl | rfl | rfl | rfl | rfl | rfl | rfl | rfl | rfl | rfl | rfl | rfl | rfl | rfl | rfl | rfl | rfl <;> rfl) (by unfold xval; simp; omega) (hz2 i (by omega)) (fun h => by
        rcases zTD_in h with h | h | h
        · exact hn2 i (by omega) h
        · cases h
        · exact absurd h.2.2 (by simp)) (by omega) ?_
      refine za_dup eX5_init_29 rfl ?_
      refine za_callIN (y := yX1_init) (mi' := mX1_init) (k1 := 0) (n1 := 0) (host := "PromiseMarket") eX5_init_30 (List.mem_of_getElem? (i := 0) rfl) (zw_3 zi_X1 li_RX1 zc_X1) rfl rfl rfl ⟨zd_X1, by decide, by decide⟩ (Nat.le_of_ble_eq_true rfl) ⟨Nat.zero_le _, Nat.zero_le _⟩ k_X1_init ?_ rfl
      refine za_ast (t := 4) (N := 21) (ci := 1) (r := (RX1, TX1, 17)) (cA := w.2.2.1 4) (vs := List.replicate 17 (.int 0)) (f := fun f => if f < i then some (w.1 10 (32 * t + f)) else none) eX5_init_33 rfl (List.mem_append_left _ zTD_m) (by unfold zup zT; rw [if_neg (by omega), if_neg (by omega), if_pos ⟨rfl, rfl⟩]) (List.mem_append_right _ List.mem_cons_self) (by unfold zup; rw [if_pos ⟨rfl, rfl⟩]) rfl (by omega) (by decide) ?_
      refine za_iinc (i := 1) eX5_init_34 rfl (xpre_s rfl rfl) ?_
      refine za_goto (tgt := 15) eX5_init_37 (by decide) ?_
      refine Z.room ?_ (k1 := 21 - (i + 1)) (n1 := 357 - 17 * (i + 1)) (by omega)
      have h9 := ih (i + 1) (by omega) (by omega)
      refine Z.eqv zTD_s (fun q hq => ?_) (by omega) h9
      show zT w t E (i + 1) q.1 q.2 = zup (zup (zT w t E i) 10 (32 * t + i) _) 23 t _ q.1 q.2
      unfold zup zT
      by_cases c1 : q.1 = 10 ∧ 32 * t ≤ q.2 ∧ q.2 < 32 * t + (i + 1)
      · rw [if_pos c1, if_neg (by omega)]
        by_cases c2 : q.2 = 32 * t + i
        · rw [if_pos ⟨c1.1, c2⟩]
        · rw [if_neg (by omega), if_pos (by omega)]
      · rw [if_neg c1]
        by_cases c2 : q.1 = 23 ∧ q.2 = t
        · rw [if_pos c2, if_pos c2]
          refine congrArg (fun g => (Sum.inl (w.2.2.1 4, (21, .inr (.inr (.inr (.inr g))))) : va_E)) ?_
          funext f
          unfold va_up
          rw [show ((i : Int)).toNat = i from rfl]
          by_cases c3 : f = i
          · subst c3; rw [if_pos (by omega), if_pos rfl]
          · rw [if_neg c3]
            show (if f < i + 1 then some (w.1 10 (32 * t + f)) else none) = (if f < i then some (w.1 10 (32 * t + f)) else none)
            by_cases c4 : f < i
            · rw [if_pos c4, if_pos (by omega)]
            · rw [if_neg c4, if_neg (by omega)]
        · rw [if_neg c2, if_neg c2, if_neg (show ¬ (q.1 = 10 ∧ q.2 = 32 * t + i) by omega), if_neg (show ¬ (q.1 = 10 ∧ 32 * t ≤ q.2 ∧ q.2 < 32 * t + i) by omega), if_neg c2]
  refine KZ.of (qq := True) (fun _ => rfl) rfl rfl rfl rfl (Nat.le_of_ble_eq_true rfl) rfl ?_
  refine za_aloadN (i := 0) eX5_init_0 rfl rfl ?_
  refine za_obj eX5_init_1 zw_objX5 ⟨by decide, by decide⟩ ?_ rfl
  refine za_aloadN (i := 0) eX5_init_4 rfl rfl ?_
  refine za_bipush eX5_init_5 (by decide) ?_
  refine za_newq (x := 23) (y := t) (N := 21) (t := 4) (C := "PromiseMarket$Promise") (cA := w.2.2.1 4) eX5_init_7 (xtb_in (i := 44) (by decide +kernel) (by decide +kernel)) (List.mem_of_getElem? (i := 0) rfl) rfl rfl (by decide) (Nat.le_of_ble_eq_true rfl) (by unfold xval; simp; omega) hz hn ⟨Nat.le_of_ble_eq_true rfl, Nat.le_of_ble_eq_true rfl⟩ ?_
  refine za_putF (T := TX5) (N := 3) (C := RX5) (ci := 5) (f := 0) (ty0 := tyX5) (ty := .array (.object "PromiseMarket$Promise")) (u := xp 23 t) (fs := [.null, .int 0, .int 0]) eX5_init_10 lRX5_13 xin_X5 tyX5_ok nmX5 rfl (by decide) (List.mem_append_left _ hm) (by unfold zup; rw [if_neg (by omega)]; exact he) rfl trivial rfl rfl rfl rfl (by decide) ?_
  refine za_iconst eX5_init_13 ?_
  refine za_istoreN (i := 1) eX5_init_14 rfl (Nat.le_of_ble_eq_true rfl) (xpre_s rfl rfl) ?_
  refine Z.room ?_ (k1 := 21) (n1 := 357) (by omega)
  refine Z.eqv (List.append_nil _) (fun q hq => ?_) rfl (lp 0 (Nat.zero_le _))
  show zT w t E 0 q.1 q.2 = zup (zup E 23 t _) 2 t _ q.1 q.2
  unfold zup zT
  rw [if_neg (by omega)]
  by_cases c2 : q.1 = 23 ∧ q.2 = t
  · rw [if_pos c2, if_neg (by omega), if_pos c2]
    rfl
  · rw [if_neg c2]
    by_cases c3 : q.1 = 2 ∧ q.2 = t
    · rw [if_pos c3, if_pos c3]; rfl
    · rw [if_neg c3, if_neg c3, if_neg c2]
