/-! the constructor of State -/
/-! the constructor of State -/
def zS (w : xW) (s : Nat) (E : zE) (i : Nat) : zE := fun k j => if k = 4 ∧ 8 * s ≤ j ∧ j < 8 * s + i then .inr (0, List.replicate 11 (.int 0)) else if k = 22 ∧ j = s then .inl (w.2.2.1 5, (8, .inr (.inr (.inr (.inr fun f => if f < i then some (w.1 4 (8 * s + f)) else none))))) else if k = 1 ∧ j = s then .inr (4, [.ref (w.1 2 s), .ref (w.1 22 s), .ref (w.1 5 s), .int 0, .int 5, .int 10, .long 0, .int (-1), .int 0, .int 0, .int 0, .int 0, .int 0, .int 0]) else zSa w s (zT w s E 21) k j
def zSD (s : Nat) (D : zD) (i : Nat) : zD := ((((zTD s (D ++ [(2, s)]) 21) ++ [(22, s)]) ++ [(5, s)]) ++ [(25, s)]) ++ (List.range i).map (fun f => (4, 8 * s + f))
/-- the objects of the state s, itself aside -/
def zmi (s k j : Nat) : Prop := (k = 2 ∧ j = s) ∨ (k = 23 ∧ j = s) ∨ (k = 10 ∧ 32 * s ≤ j ∧ j < 32 * s + 21) ∨ (k = 22 ∧ j = s) ∨ (k = 5 ∧ j = s) ∨ (k = 25 ∧ j = s) ∨ (k = 4 ∧ 8 * s ≤ j ∧ j < 8 * s + 8)
theorem zSD_s {s i : Nat} {D : zD} : zSD s D (i + 1) = zSD s D i ++ [(4, 8 * s + i)] := by
  unfold zSD
  rw [List.range_succ, List.map_append, ← List.append_assoc]
  rfl
theorem zTD_k {t i k j : Nat} {D : zD} (h : (k, j) ∈ zTD t D i) : (k, j) ∈ D ∨ (k = 23 ∧ j = t) ∨ (k = 10 ∧ 32 * t ≤ j ∧ j < 32 * t + i) := by
  rcases zTD_in h with h | h | h
  · exact Or.inl h
  · cases h; exact Or.inr (Or.inl ⟨rfl, rfl⟩)
  · exact Or.inr (Or.inr h)
theorem mem_k {k j a b : Nat} {D : zD} (h : (k, j) ∈ D ++ [(a, b)]) : (k, j) ∈ D ∨ (k = a ∧ j = b) := by
  rcases List.mem_append.mp h with h | h
  · exact Or.inl h
  · cases List.mem_singleton.mp h; exact Or.inr ⟨rfl, rfl⟩
theorem map_k {k j a b n : Nat} (h : (k, j) ∈ (List.range n).map (fun f => (a, b + f))) : k = a ∧ b ≤ j ∧ j < b + n := by
  obtain ⟨f, hf, e⟩ := List.mem_map.mp h
  have := List.mem_range.mp hf
  cases e
  exact ⟨rfl, Nat.le_add_right _ _, by omega⟩
theorem zSD_k {s i k j : Nat} {D : zD} (hi : i ≤ 8) (h : (k, j) ∈ zSD s D i) : (k, j) ∈ D ∨ (zmi s k j ∧ (k = 4 → j < 8 * s + i)) := by
  unfold zSD at h
  rcases List.mem_append.mp h with h | h
  · rcases mem_k h with h | h
    · rcases mem_k h with h | h
      · rcases mem_k h with h | h
        · rcases zTD_k h with h | h | h
          · rcases mem_k h with h | h
            · exact Or.inl h
            · exact Or.inr (by unfold zmi; omega)
          · exact Or.inr (by unfold zmi; omega)
          · exact Or.inr (by unfold zmi; omega)
        · exact Or.inr (by unfold zmi; omega)
      · exact Or.inr (by unfold zmi; omega)
    · exact Or.inr (by unfold zmi; omega)
  · have := map_k h
    exact Or.inr (by unfold zmi; omega)
theorem zSD_l {s i : Nat} {D : zD} {q : Nat × Nat} (h : q ∈ D) : q ∈ zSD s D i := List.mem_append_left _ (List.mem_append_left _ (List.mem_append_left _ (List.mem_append_left _ (zTD_l (List.mem_append_left _ h)))))
theorem zSD_m {s i : Nat} {D : zD} : (22, s) ∈ zSD s D i := List.mem_append_left _ (List.mem_append_left _ (List.mem_append_left _ (List.mem_append_right _ List.mem_cons_self)))
/-- what a new state asks of the world -/
def zSq (w : xW) (s z : Nat) (D : zD) : Prop := s < 5 ∧ (∀ k j, (k, j) ∈ D → ¬ zmi s k j) ∧ w.1 2 s = z ∧ w.1 23 s = z + 1 ∧ (∀ f, f < 21 → w.1 10 (32 * s + f) = z + 2 + f) ∧ w.1 22 s = z + 23 ∧ w.1 5 s = z + 24 ∧ w.1 25 s = z + 25 ∧ ∀ f, f < 8 → w.1 4 (8 * s + f) = z + 26 + f
theorem k_X4_init {w : xW} {D : zD} {E : zE} {z s : Nat} (hm : (1, s) ∈ D) (he : E 1 s = .inr (4, [.null, .null, .null, .int 0, .int 0, .int 0, .long 0, .int 0, .int 0, .int 0, .int 0, .int 0, .int 0, .int 0])) (hq : zSq w s z D) : KZ w mX4_init yX4_init 34 544 [xp 1 s] D E z (zSD s D 8) (zS w s E 8) (z + 34) := by
  obtain ⟨hs, hn, a2, a23, a10, a22, a5, a25, a4⟩ := hq
  have lp : ∀ i : Nat, i ≤ 8 → Z w True mX4_init (zTG w (zSD s D 8) (zS w s E 8) (z + 34)) (8 - i) (88 - 11 * i) 53 [xp 1 s, xi (i : Int)] [] (zSD s D i) (zS w s E i) (z + 26 + i) := by
    refine nloop 8 (fun i hi ih => ?_)
    refine za_iloadN (i := 1) eX4_init_53 rfl rfl ?_
    refine za_bipush eX4_init_54 (by decide) ?_
    refine za_icmp_ge (tgt := 78) eX4_init_56 (by decide) (by omega) (by decide) (fun c => ?_) (fun c => ?_)
    · obtain rfl : i = 8 := by omega
      exact za_vret eX4_init_78 rfl
    · refine za_aloadN (i := 0) eX4_init_59 rfl rfl ?_
      refine za_get (v := xp 22 s) (T := TX4) (N := 14) (C := RX4) (ci := 4) (f := 1) (fs := [.ref (w.1 2 s), .ref (w.1 22 s), .ref (w.1 5 s), .int 0, .int 5, .int 10, .long 0, .int (-1), .int 0, .int 0, .int 0, .int 0, .int 0, .int 0]) eX4_init_60 lRX4_20 xin_X4 rfl (by decide) (zSD_l hm) (by unfold zS; rw [if_neg (by omega), if_neg (by omega), if_pos ⟨rfl, rfl⟩]) rfl (by unfold xok xval; simp; omega) ?_
      refine za_iloadN (i := 1) eX4_init_63 rfl rfl ?_
      refine za_new (x := 4) (y := 8 * s + i) (T := TX0) (N := 11) (C := RX0) (ci := 0) (ty0 := tyX0) (fs := List.replicate 11 (.int 0)) eX4_init_64 (zw_3 (xtb_in (i := 138) (by decide +kernel) (by decide +kernel)) (xtb_in (i := 158) (by decide +kernel) (by decide +kernel)) li_RX0) xin_X0 tyX0_ok rfl (fun j hj => by rcases (show j = 0 ∨ j = 1 ∨ j = 2 ∨ j = 3 ∨ j = 4 ∨ j = 5 ∨ j = 6 ∨ j = 7 ∨ j = 8 ∨ j = 9 ∨ j = 10 by omega) with rfl | rfl | rfl | rfl | rfl | rfl | rfl | rfl | rfl | rfl | rfl <;> rfl) (by unfold xval; simp; omega) (a4 i (by omega)) (fun h => by
        rcases zSD_k hi h with h | h
        · exact hn 4 (8 * s + i) h (by unfold zmi; omega)
        · omega) (by omega) ?_
      refine za_dup eX4_init_67 rfl ?_
      refine za_callIN (y := yX0_init) (mi' := mX0_init) (k1 := 0) (n1 := 0) (host := "PromiseMarket") eX4_init_68 (List.mem_of_getElem? (i := 2) rfl) (zw_3 zi_X0 li_RX0 zc_X0) rfl rfl rfl ⟨zd_X0, by decide, by decide⟩ (Nat.le_of_ble_eq_true rfl) ⟨Nat.zero_le _, Nat.zero_le _⟩ k_X0_init ?_ rfl
      refine za_ast (t := 5) (N := 8) (ci := 0) (r := (RX0, TX0, 11)) (cA := w.2.2.1 5) (vs := List.replicate 11 (.int 0)) (f := fun f => if f < i then some (w.1 4 (8 * s + f)) else none) eX4_init_71 rfl (List.mem_append_left _ zSD_m) (by unfold zup zS; rw [if_neg (by omega), if_neg (by omega), if_pos ⟨rfl, rfl⟩]) (List.mem_append_right _ List.mem_cons_self) (by unfold zup; rw [if_pos ⟨rfl, rfl⟩]) rfl (by omega) (by decide) ?_
      refine za_iinc (i := 1) eX4_init_72 rfl (xpre_s rfl rfl) ?_
      refine za_goto (tgt := 53) eX4_init_75 (by decide) ?_
      refine Z.room ?_ (k1 := 8 - (i + 1)) (n1 := 88 - 11 * (i + 1)) (by omega)
      have h9 := ih (i + 1) (by omega) (by omega)
      refine Z.eqv zSD_s (fun q hq => ?_) (by omega) h9
      show zS w s E (i + 1) q.1 q.2 = zup (zup (zS w s E i) 4 (8 * s + i) _) 22 s _ q.1 q.2
      unfold zup zS
      by_cases c1 : q.1 = 4 ∧ 8 * s ≤ q.2 ∧ q.2 < 8 * s + (i + 1)
      · rw [if_pos c1, if_neg (by omega)]
        by_cases c2 : q.2 = 8 * s + i
        · rw [if_pos ⟨c1.1, c2⟩]
        · rw [if_neg (by omega), if_pos (by omega)]
      · rw [if_neg c1]
        by_cases c2 : q.1 = 22 ∧ q.2 = s
        · rw [if_pos c2, if_pos c2]
          refine congrArg (fun g => (Sum.inl (w.2.2.1 5, (8, .inr (.inr (.inr (.inr g))))) : va_E)) ?_
          funext f
          unfold va_up
          rw [show ((i : Int)).toNat = i from rfl]
          by_cases c3 : f = i
          · subst c3; rw [if_pos (by omega), if_pos rfl]
          · rw [if_neg c3]
            show (if f < i + 1 then some (w.1 4 (8 * s + f)) else none) = (if f < i then some (w.1 4 (8 * s + f)) else none)
            by_cases c4 : f < i
            · rw [if_pos c4, if_pos (by omega)]
            · rw [if_neg c4, if_neg (by omega)]
        · rw [if_neg c2, if_neg c2, if_neg (show ¬ (q.1 = 4 ∧ q.2 = 8 * s + i) by omega), if_neg (show ¬ (q.1 = 4 ∧ 8 * s ≤ q.2 ∧ q.2 < 8 * s + i) by omega), if_neg c2]
  refine KZ.of (qq := True) (fun _ => rfl) rfl rfl rfl rfl (Nat.le_of_ble_eq_true rfl) rfl ?_
  refine za_aloadN (i := 0) eX4_init_0 rfl rfl ?_
  refine za_obj eX4_init_1 zw_objX4 ⟨by decide, by decide⟩ ?_ rfl
  refine za_aloadN (i := 0) eX4_init_4 rfl rfl ?_
  refine za_new (x := 2) (y := s) (T := TX5) (N := 3) (C := RX5) (ci := 5) (ty0 := tyX5) (fs := [.null, .int 0, .int 0]) eX4_init_5 (zw_3 (xtb_in (i := 38) (by decide +kernel) (by decide +kernel)) (xtb_in (i := 39) (by decide +kernel) (by decide +kernel)) li_RX5) xin_X5 tyX5_ok rfl (fun j hj => by rcases (show j = 0 ∨ j = 1 ∨ j = 2 by omega) with rfl | rfl | rfl <;> rfl) (by unfold xval; simp; omega) a2 (fun h => hn _ _ h (by unfold zmi; omega)) (by omega) ?_
  refine za_dup eX4_init_8 rfl ?_
  refine za_callI (y := yX5_init) (mi' := mX5_init) (k1 := 22) (n1 := 378) eX4_init_9 (zw_4 lRX4_11 zi_X5 li_RX5 zc_X5) rfl rfl rfl ⟨zd_X5, by decide, by decide⟩ (Nat.le_of_ble_eq_true rfl) (by omega) (k_X5_init (List.mem_append_right _ List.mem_cons_self) (by unfold zup; rw [if_pos ⟨rfl, rfl⟩]) ⟨by omega, fun h => by
    rcases mem_k h with h | h
    · exact hn _ _ h (by unfold zmi; omega)
    · omega, fun f hf h => by
    rcases mem_k h with h | h
    · exact hn _ _ h (by unfold zmi; omega)
    · omega, a23, fun f hf => by rw [a10 f hf]⟩) ?_ rfl
  refine za_putF (T := TX4) (N := 14) (C := RX4) (ci := 4) (f := 0) (ty0 := tyX4) (ty := .object "PromiseMarket$Timeline") (u := xp 2 s) (fs := [.null, .null, .null, .int 0, .int 0, .int 0, .long 0, .int 0, .int 0, .int 0, .int 0, .int 0, .int 0, .int 0]) eX4_init_12 lRX4_12 xin_X4 tyX4_ok nmX4 rfl (by decide) (zTD_l (List.mem_append_left _ hm)) (by unfold zT; rw [if_neg (by omega), if_neg (by omega), if_neg (by omega)]; unfold zup; rw [if_neg (by omega)]; exact he) rfl trivial rfl rfl rfl rfl (Nat.le_of_ble_eq_true rfl) ?_
  refine za_aloadN (i := 0) eX4_init_15 rfl rfl ?_
  refine za_bipush eX4_init_16 (by decide) ?_
  refine za_newq (x := 22) (y := s) (N := 8) (t := 5) (C := "PromiseMarket$Process") (cA := w.2.2.1 5) eX4_init_18 (xtb_in (i := 138) (by decide +kernel) (by decide +kernel)) (List.mem_of_getElem? (i := 1) rfl) rfl rfl (by decide) (Nat.le_of_ble_eq_true rfl) (by unfold xval; simp; omega) (by omega) (fun h => by
    rcases zTD_k h with h | h | h
    · rcases mem_k h with h | h
      · exact hn _ _ h (by unfold zmi; omega)
      · omega
    · omega
    · omega) (by omega) ?_
  refine za_putF (T := TX4) (N := 14) (C := RX4) (ci := 4) (f := 1) (ty0 := tyX4) (ty := .array (.object "PromiseMarket$Process")) (u := xp 22 s) (fs := [.ref (w.1 2 s), .null, .null, .int 0, .int 0, .int 0, .long 0, .int 0, .int 0, .int 0, .int 0, .int 0, .int 0, .int 0]) eX4_init_21 lRX4_20 xin_X4 tyX4_ok nmX4 rfl (by decide) (List.mem_append_left _ (zTD_l (List.mem_append_left _ hm))) (by unfold zup; rw [if_neg (by omega), if_pos ⟨rfl, rfl⟩]; rfl) rfl trivial rfl rfl rfl rfl (Nat.le_of_ble_eq_true rfl) ?_
  refine za_aloadN (i := 0) eX4_init_24 rfl rfl ?_
  refine za_new (x := 5) (y := s) (T := TX2) (N := 3) (C := RX2) (ci := 2) (ty0 := tyX2) (fs := [.null, .int 0, .int 0]) eX4_init_25 (zw_3 (xtb_in (i := 140) (by decide +kernel) (by decide +kernel)) (xtb_in (i := 141) (by decide +kernel) (by decide +kernel)) li_RX2) xin_X2 tyX2_ok rfl (fun j hj => by rcases (show j = 0 ∨ j = 1 ∨ j = 2 by omega) with rfl | rfl | rfl <;> rfl) (by unfold xval; simp; omega) (by omega) (fun h => by
    rcases mem_k h with h | h
    · rcases zTD_k h with h | h | h
      · rcases mem_k h with h | h
        · exact hn _ _ h (by unfold zmi; omega)
        · omega
      · omega
      · omega
    · omega) (by omega) ?_
  refine za_dup eX4_init_28 rfl ?_
  refine za_callIN (y := yX2_init) (mi' := mX2_init) (k1 := 1) (n1 := 64) (host := "PromiseMarket") eX4_init_29 (List.mem_of_getElem? (i := 1) rfl) (zw_3 zi_X2 li_RX2 zc_X2) rfl rfl rfl ⟨zd_X2, by decide, by decide⟩ (Nat.le_of_ble_eq_true rfl) (by omega) (k_X2_init (List.mem_append_right _ List.mem_cons_self) (by unfold zup; rw [if_pos ⟨rfl, rfl⟩]) (fun h => by
    rcases mem_k h with h | h
    · rcases mem_k h with h | h
      · rcases zTD_k h with h | h | h
        · rcases mem_k h with h | h
          · exact hn _ _ h (by unfold zmi; omega)
          · omega
        · omega
        · omega
      · omega
    · omega) (by omega) hs) ?_ rfl
  refine za_putF (T := TX4) (N := 14) (C := RX4) (ci := 4) (f := 2) (ty0 := tyX4) (ty := .object "PromiseMarket$Sales") (u := xp 5 s) (fs := [.ref (w.1 2 s), .ref (w.1 22 s), .null, .int 0, .int 0, .int 0, .long 0, .int 0, .int 0, .int 0, .int 0, .int 0, .int 0, .int 0]) eX4_init_32 lRX4_27 xin_X4 tyX4_ok nmX4 rfl (by decide) (List.mem_append_left _ (List.mem_append_left _ (List.mem_append_left _ (zTD_l (List.mem_append_left _ hm))))) (by unfold zSa; rw [if_neg (by omega), if_neg (by omega)]; unfold zup; rw [if_neg (by omega), if_pos ⟨rfl, rfl⟩]; rfl) rfl trivial rfl rfl rfl rfl (Nat.le_of_ble_eq_true rfl) ?_
  refine za_aloadN (i := 0) eX4_init_35 rfl rfl ?_
  refine za_iconst eX4_init_36 ?_
  refine za_put (T := TX4) (N := 14) (C := RX4) (ci := 4) (f := 4) (ty0 := tyX4) (ty := .int) (u := xi 5) (fs := [.ref (w.1 2 s), .ref (w.1 22 s), .ref (w.1 5 s), .int 0, .int 0, .int 0, .long 0, .int 0, .int 0, .int 0, .int 0, .int 0, .int 0, .int 0]) eX4_init_37 lRX4_31 xin_X4 tyX4_ok nmX4 rfl (by decide) (List.mem_append_left _ (List.mem_append_left _ (List.mem_append_left _ (zTD_l (List.mem_append_left _ hm))))) (by unfold zup; rw [if_pos ⟨rfl, rfl⟩]; rfl) rfl rfl rfl rfl (Nat.le_of_ble_eq_true rfl) ?_
  refine za_aloadN (i := 0) eX4_init_40 rfl rfl ?_
  refine za_bipush eX4_init_41 (by decide) ?_
  refine za_put (T := TX4) (N := 14) (C := RX4) (ci := 4) (f := 5) (ty0 := tyX4) (ty := .int) (u := xi 10) (fs := [.ref (w.1 2 s), .ref (w.1 22 s), .ref (w.1 5 s), .int 0, .int 5, .int 0, .long 0, .int 0, .int 0, .int 0, .int 0, .int 0, .int 0, .int 0]) eX4_init_43 lRX4_35 xin_X4 tyX4_ok nmX4 rfl (by decide) (List.mem_append_left _ (List.mem_append_left _ (List.mem_append_left _ (zTD_l (List.mem_append_left _ hm))))) (by unfold zup; rw [if_pos ⟨rfl, rfl⟩]; rfl) rfl rfl rfl rfl (Nat.le_of_ble_eq_true rfl) ?_
  refine za_aloadN (i := 0) eX4_init_46 rfl rfl ?_
  refine za_iconst eX4_init_47 ?_
  refine za_put (T := TX4) (N := 14) (C := RX4) (ci := 4) (f := 7) (ty0 := tyX4) (ty := .int) (u := xi (-1)) (fs := [.ref (w.1 2 s), .ref (w.1 22 s), .ref (w.1 5 s), .int 0, .int 5, .int 10, .long 0, .int 0, .int 0, .int 0, .int 0, .int 0, .int 0, .int 0]) eX4_init_48 lRX4_38 xin_X4 tyX4_ok nmX4 rfl (by decide) (List.mem_append_left _ (List.mem_append_left _ (List.mem_append_left _ (zTD_l (List.mem_append_left _ hm))))) (by unfold zup; rw [if_pos ⟨rfl, rfl⟩]; rfl) rfl rfl rfl rfl (Nat.le_of_ble_eq_true rfl) ?_
  refine za_iconst eX4_init_51 ?_
  refine za_istoreN (i := 1) eX4_init_52 rfl (Nat.le_of_ble_eq_true rfl) (xpre_s rfl rfl) ?_
  refine Z.room ?_ (k1 := 8) (n1 := 88) (by omega)
  refine Z.eqv (List.append_nil _) (fun q hq => ?_) (by omega) (lp 0 (Nat.zero_le _))
  show zS w s E 0 q.1 q.2 = zup (zup (zup (zup (zSa w s (zup (zup (zup (zup (zT w s (zup E 2 s _) 21) 1 s _) 22 s _) 1 s _) 5 s _)) 1 s _) 1 s _) 1 s _) 1 s _ q.1 q.2
  unfold zS
  rw [if_neg (by omega)]
  by_cases c1 : q.1 = 1 ∧ q.2 = s
  · rw [if_neg (by omega), if_pos c1]
    unfold zup
    rw [if_pos c1]
    rfl
  · have u1 : ∀ (X : zE) (e : va_E), zup X 1 s e q.1 q.2 = X q.1 q.2 := fun X e => by unfold zup; rw [if_neg c1]
    rw [u1, u1, u1, u1, if_neg c1]
    unfold zSa
    by_cases c2 : q.1 = 22 ∧ q.2 = s
    · rw [if_pos c2, if_neg (by omega), if_neg (by omega)]
      have u5 : ∀ (X : zE) (e : va_E), zup X 5 s e q.1 q.2 = X q.1 q.2 := fun X e => by unfold zup; rw [if_neg (by omega)]
      rw [u5, u1]
      unfold zup
      rw [if_pos c2]
      rfl
    · rw [if_neg c2]
      by_cases c3 : q.1 = 25 ∧ q.2 = s
      · rw [if_pos c3, if_pos c3]
      · rw [if_neg c3, if_neg c3]
        by_cases c4 : q.1 = 5 ∧ q.2 = s
        · rw [if_pos c4, if_pos c4]
        · rw [if_neg c4, if_neg c4]
          have u5 : ∀ (X : zE) (e : va_E), zup X 5 s e q.1 q.2 = X q.1 q.2 := fun X e => by unfold zup; rw [if_neg c4]
          have u22 : ∀ (X : zE) (e : va_E), zup X 22 s e q.1 q.2 = X q.1 q.2 := fun X e => by unfold zup; rw [if_neg c2]
          rw [u5, u1, u22, u1]
          unfold zT
          by_cases c5 : q.1 = 2 ∧ q.2 = s
          · rw [if_neg (by omega), if_neg (by omega), if_pos c5, if_neg (by omega), if_neg (by omega), if_pos c5]
          · rw [if_neg c5, if_neg c5]
            unfold zup
            rw [if_neg c5]
