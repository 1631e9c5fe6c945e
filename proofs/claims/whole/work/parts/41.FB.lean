/-! promises 8 to 10 -/
theorem tlq.sym {u v N : Nat} {C D : xS} (h : tlq u v N C D) : tlq v u N D C := ⟨h.1.symm, fun j hj f hf => (h.2 j hj f hf).symm⟩
theorem VT.xtl {t u N : Nat} {T : Int} {S S1 : xS} (h : VT t N T S) (hx : xtl u S1 S) (hu : u ≠ t) : VT t N T S1 := by
  obtain ⟨a1, a2, a3, a4⟩ := h
  refine ⟨by rw [hx 2 t (by omega) (by omega)]; exact a1, a2, by rw [hx 2 t (by omega) (by omega)]; exact a3, fun j hj => ?_⟩
  rw [hx 2 t (by omega) (by omega), hx 10 (32 * t + j) (by omega) (by omega)]
  exact a4 j hj
theorem addT_scr {N : Nat} {o p b d : Int} {S S1 : xS} (h : scr S1 S) : scr (addT 0 N o p b d S1) (addT 0 N o p b d S) := by
  intro x y k
  funext f
  unfold addT
  rw [h x y k, h 2 0 (by unfold sct; omega)]
def frs (g : Nat → Bool) : Nat → Nat → Int
  | 0, _ => -1
  | k + 1, i => if g i = true then (i : Int) else frs g k (i + 1)
def gbF (p d : Int) (N : Nat) (C : xS) : Nat → Int
  | 0 => 0
  | k + 1 => if accF 0 5 N p ((k + 1 : Nat) : Int) d C = true then ((k + 1 : Nat) : Int) else gbF p d N C k
def o_promise (q p b d : Int) (n N : Nat) (C : xS) : xO := if 0 ≤ q ∧ q < (n : Int) then (if wshP p b d then (if N < 20 then (if accF 0 5 N p b d C = true then (0, N, n, N + 1, addT 0 N q p b d C) else (3, 0, n, N, C)) else (3, 0, n, N, C)) else (2, 0, n, N, C)) else (1, 0, n, N, C)
def o_canAccept (p b d : Int) (n N : Nat) (C : xS) : xO := if wshP p b d then (0, b2i (accF 0 5 N p b d C = true), n, N, C) else (1, 0, n, N, C)
def o_greatestBudget (p d : Int) (n N : Nat) (C : xS) : xO := if perP p then (if 1 ≤ d ∧ d ≤ p then (0, gbF p d N C d.toNat, n, N, C) else (1, 0, n, N, C)) else (1, 0, n, N, C)
def o_waitFor (p b d : Int) (n N : Nat) (C : xS) : xO := if wshP p b d then (0, frs (fun i => accF 0 5 N p b d (itr (tckS 0 n N) i C)) 121 0, n, N, C) else (1, 0, n, N, C)
def o_end (j : Int) (n N : Nat) (C : xS) : xO := if 0 ≤ j ∧ j < (N : Int) then (if C 10 (32 * 0 + j.toNat) 0 = 0 then (0, C 10 (32 * 0 + j.toNat) 6, n, N, rwS 10 (32 * 0 + j.toNat) (xfin (C 10 (32 * 0 + j.toNat))) C) else (2, 0, n, N, C)) else (1, 0, n, N, C)
def o_split (j a : Int) (n N : Nat) (C : xS) : xO := if 0 ≤ j ∧ j < (N : Int) then (if 1 ≤ a ∧ a ≤ C 10 (32 * 0 + j.toNat) 3 - 1 then (if C 10 (32 * 0 + j.toNat) 0 = 0 ∧ N < 20 then (0, N, n, N + 1, divS 0 N j.toNat a C) else (3, 0, n, N, C)) else (2, 0, n, N, C)) else (1, 0, n, N, C)
def o_told (j a : Int) (n N : Nat) (C : xS) : xO := if 0 ≤ j ∧ j < (N : Int) then (if 0 ≤ a ∧ a ≤ 16 then (0, xfg1 (C 2 0 2) (C 10 (32 * 0 + j.toNat)) a.toNat, n, N, C) else (2, 0, n, N, C)) else (1, 0, n, N, C)
def lnr (S' S : xS) : Prop := rfr S' S ∧ ∀ f, f ≠ 11 → f ≠ 12 → S' 30 0 f = S 30 0 f
theorem r_X8_accepts {w : xW} {S C : xS} {B : String → xS → Prop} {A : Int → xS → Prop} {n N : Nat} {M : Nat → Int} {p b d T : Int} (hV : VS 0 n N T C) (hT : T ≤ 900000) (hR : Rel 0 n N C M) (hp : 1 ≤ p ∧ p ≤ 120) (hb : 1 ≤ b ∧ b ≤ 120) (hd : 1 ≤ d ∧ d ≤ 120) (hq : ∀ S', lnr S' S → A (b2i (accF 0 5 N p b d C = true)) (stM M S')) : Ki w mX8_accepts yX8_accepts 0 0 [xp 30 0, xi p, xi b, xi d] (stM M S) A B := by
  refine f_X8_accepts (u := 5) hV hT (by rw [stM_31]; exact hR) hp hb hd (fun S2 h => ?_)
  have e : stM M S2 = S2 := by
    have h9 := stM_self S2
    rw [h.1 31 0 (Or.inl (by decide)) (by decide), stM_31] at h9
    exact h9
  have h9 := hq S2 ⟨⟨fun k j hk => ?_, fun f hf => ?_⟩, fun f h1 h2 => ?_⟩
  · rw [e] at h9; exact h9
  · rw [h.1 k j (by omega) (by omega), stM_k (by omega)]
  · rw [h.2 0 f (by omega) (by omega), stM_k (by decide)]
  · rw [h.2 0 f h1 h2, stM_k (by decide)]
def zrM (b i : Nat) (M : Nat → Int) : Nat → Int := fun q => if b ≤ q ∧ q < b + i then 0 else M q
theorem zrM_0 (b : Nat) (M : Nat → Int) : zrM b 0 M = M := by funext q; unfold zrM; rw [if_neg (by omega)]
theorem zrM_s (b i : Nat) (M : Nat → Int) : upM (zrM b i M) (b + i) 0 = zrM b (i + 1) M := by
  funext q
  unfold upM zrM
  by_cases c : q = b + i
  · rw [if_pos c, if_pos (by omega)]
  · rw [if_neg c]
    by_cases c2 : b ≤ q ∧ q < b + i
    · rw [if_pos c2, if_pos (by omega)]
    · rw [if_neg c2, if_neg (by omega)]
def apM (N : Nat) (o p b d : Int) (M : Nat → Int) : Nat → Int := upM (upM (upM (upM (upM (upM (upM (upM (upM (zrM (103 + 18 * N) 18 M) (103 + 18 * N + 1) o) (103 + 18 * N + 2) p) (103 + 18 * N + 3) b) (103 + 18 * N + 4) d) (103 + 18 * N + 5) (M 0)) (103 + 18 * N + 8) (-1)) (103 + 18 * N + 9) (-1)) (103 + 18 * N + 10) (-1)) 2 ((N : Int) + 1)
theorem apM_o {N : Nat} {o p b d : Int} {M : Nat → Int} {i : Nat} (h : ¬ (103 + 18 * N ≤ i ∧ i < 103 + 18 * N + 18)) (h2 : i ≠ 2) : apM N o p b d M i = M i := by
  unfold apM
  rw [upM_o h2, upM_o (by omega), upM_o (by omega), upM_o (by omega), upM_o (by omega), upM_o (by omega), upM_o (by omega), upM_o (by omega), upM_o (by omega)]
  unfold zrM
  rw [if_neg h]
theorem apM_2 {N : Nat} {o p b d : Int} {M : Nat → Int} : apM N o p b d M 2 = (N : Int) + 1 := by unfold apM; rw [upM_same]
theorem apM_r {N : Nat} {o p b d : Int} {M : Nat → Int} {f : Nat} (h : f < 18) : apM N o p b d M (103 + 18 * N + f) = if f = 1 then o else if f = 2 then p else if f = 3 then b else if f = 4 then d else if f = 5 then M 0 else if f = 8 then -1 else if f = 9 then -1 else if f = 10 then -1 else 0 := by
  unfold apM
  rw [upM_o (by omega)]
  have z : zrM (103 + 18 * N) 18 M (103 + 18 * N + f) = 0 := by unfold zrM; rw [if_pos (by omega)]
  simp only [upM, Nat.add_left_cancel_iff, z]
  have hf9 : f = 0 ∨ f = 1 ∨ f = 2 ∨ f = 3 ∨ f = 4 ∨ f = 5 ∨ f = 6 ∨ f = 7 ∨ f = 8 ∨ f = 9 ∨ f = 10 ∨ f = 11 ∨ f = 12 ∨ f = 13 ∨ f = 14 ∨ f = 15 ∨ f = 16 ∨ f = 17 := by omega
  rcases hf9 with rfl | rfl | rfl | rfl | rfl | rfl | rfl | rfl | rfl | rfl | rfl | rfl | rfl | rfl | rfl | rfl | rfl | rfl <;> rfl
theorem Rel.pro {n N : Nat} {o p b d : Int} {C : xS} {M : Nat → Int} (h : Rel 0 n N C M) (hN : N < 20) (ht : 0 ≤ C 2 0 2) : Rel 0 n (N + 1) (addT 0 N o p b d C) (apM N o p b d M) := by
  obtain ⟨h1, h2, h3, h4⟩ := h
  have e : ∀ k, k ≠ 2 → k ≠ 10 → addT 0 N o p b d C k = C k := fun k hk hk2 => by funext j f; unfold addT; rw [if_neg (by omega), if_neg (by omega)]
  have e22 : addT 0 N o p b d C 2 0 2 = C 2 0 2 := by unfold addT; rw [if_neg (by omega), if_neg (by omega)]
  have e21 : addT 0 N o p b d C 2 0 1 = (N : Int) + 1 := by unfold addT; rw [if_pos ⟨rfl, rfl, rfl⟩]
  refine ⟨fun i hi => ?_, fun q f hq hf => ?_, fun j hj => ?_, fun q hq => ?_⟩
  · by_cases c : i = 2
    · subst c; rw [apM_2]; exact e21.symm
    · rw [apM_o (by omega) c, h1 i hi]
      have b' : i = 0 ∨ i = 1 ∨ i = 3 ∨ i = 4 ∨ i = 5 ∨ i = 6 ∨ i = 7 ∨ i = 8 ∨ i = 9 ∨ i = 10 ∨ i = 11 ∨ i = 12 ∨ i = 13 ∨ i = 14 := by omega
      have k1 := e 1 (by decide) (by decide)
      have k5 := e 5 (by decide) (by decide)
      rcases b' with rfl | rfl | rfl | rfl | rfl | rfl | rfl | rfl | rfl | rfl | rfl | rfl | rfl | rfl
      · exact e22.symm
      all_goals (first | exact (congrFun (congrFun k1 0) _).symm | exact (congrFun (congrFun k5 0) _).symm)
  · rw [apM_o (by omega) (by omega), e 4 (by decide) (by decide)]; exact h2 q f hq hf
  · rw [e22]
    by_cases c : j = N
    · subst c
      have er : addT 0 j o p b d C 10 (32 * 0 + j) = xbeg o p b d (C 2 0 2) := by funext f; unfold addT; rw [if_neg (by omega), if_pos ⟨rfl, rfl⟩]
      rw [er]
      have e0 : M 0 = C 2 0 2 := h1 0 (by decide)
      refine ⟨fun f h16 q6 q7 q8 => ?_, ?_, Or.inr ⟨?_, rfl, Or.inl ?_⟩⟩
      · show apM _ _ _ _ _ _ _ = _
        rw [apM_r (by omega), e0]
        have hf9 : f = 0 ∨ f = 1 ∨ f = 2 ∨ f = 3 ∨ f = 4 ∨ f = 5 ∨ f = 9 ∨ f = 10 ∨ f = 11 ∨ f = 12 ∨ f = 13 ∨ f = 14 ∨ f = 15 ∨ f = 16 := by omega
        rcases hf9 with rfl | rfl | rfl | rfl | rfl | rfl | rfl | rfl | rfl | rfl | rfl | rfl | rfl | rfl <;> rfl
      · show 0 ≤ apM _ _ _ _ _ _ _ ∧ apM _ _ _ _ _ _ _ ≤ _
        rw [apM_r (by decide)]
        show 0 ≤ (0 : Int) ∧ (0 : Int) ≤ 2000000
        decide
      · show (-1 : Int) ≤ _; omega
      · show apM _ _ _ _ _ _ _ = 0; rw [apM_r (by decide)]; rfl
    · have er : addT 0 N o p b d C 10 (32 * 0 + j) = C 10 (32 * 0 + j) := by funext f; unfold addT; rw [if_neg (by omega), if_neg (by omega)]
      rw [er]
      exact (h3 j (by omega)).g (fun f hf => apM_o (by omega) (by omega))
  · rw [apM_o (by omega) (by omega), e 25 (by decide) (by decide)]; exact h4 q hq
set_option maxHeartbeats 400000 in
theorem r_X8_appendPromise {w : xW} {S : xS} {B : String → xS → Prop} {A : Int → xS → Prop} {N : Nat} {o p b d : Int} {M : Nat → Int} (e2 : M 2 = (N : Int)) (hN20 : N < 20) (ho : xr o) (hp : xr p) (hb : xr b) (hd : xr d) (ht : xr (M 0)) (hq : A (N : Int) (stM (apM N o p b d M) S)) : Ki w mX8_appendPromise yX8_appendPromise 0 0 [xp 30 0, xi o, xi p, xi b, xi d] (stM M S) A B := by
  refine K.of rfl rfl rfl rfl (Nat.le_of_ble_eq_true rfl) rfl ?_
  have lp : ∀ i : Nat, i ≤ 18 →  X w mX8_appendPromise (xTG w (fun v S' => ∃ a, v = some (xi a) ∧ A a S') B) 0 0 10 [xp 30 0, xi o, xi p, xi b, xi d, xi (N : Int), xi (i : Int)] [] (stM (zrM (103 + 18 * N) i M) S) := by
    refine nloop (18) (fun i hi ih  => ?_)
    refine xs_iload_6 eX8_appendPromise_10 ?_
    refine xa_bipush eX8_appendPromise_12 (by decide) ?_
    refine xa_icmp_ge (tgt := 32) eX8_appendPromise_14 (by decide) (by omega) (by decide) (fun c14 => ?_) (fun c14 => ?_)
    · refine xs_aload_0 eX8_appendPromise_32 ?_
      refine xs_iload_5 eX8_appendPromise_33 ?_
      refine xa_iconst eX8_appendPromise_35 ?_
      refine xs_iload_1 eX8_appendPromise_36 ?_
      refine xbv_V30 (mi' := mX8_keep) (y := yX8_keep) eX8_appendPromise_37 (xw_5 lRX8_137 wy_X8_keep) rfl ⟨wd_X8_keep, by decide, by decide⟩ (by decide) (fun _ => rfl) rfl (Nat.le_of_ble_eq_true rfl) rfl (k_X8_keep (p := N) (g := 1) rfl rfl hN20 (by decide) ho ?_)
      rw [up_stM]
      refine xs_aload_0 eX8_appendPromise_40 ?_
      refine xs_iload_5 eX8_appendPromise_41 ?_
      refine xa_iconst eX8_appendPromise_43 ?_
      refine xs_iload_2 eX8_appendPromise_44 ?_
      refine xbv_V30 (mi' := mX8_keep) (y := yX8_keep) eX8_appendPromise_45 (xw_5 lRX8_137 wy_X8_keep) rfl ⟨wd_X8_keep, by decide, by decide⟩ (by decide) (fun _ => rfl) rfl (Nat.le_of_ble_eq_true rfl) rfl (k_X8_keep (p := N) (g := 2) rfl rfl hN20 (by decide) hp ?_)
      rw [up_stM]
      refine xs_aload_0 eX8_appendPromise_48 ?_
      refine xs_iload_5 eX8_appendPromise_49 ?_
      refine xa_iconst eX8_appendPromise_51 ?_
      refine xs_iload_3 eX8_appendPromise_52 ?_
      refine xbv_V30 (mi' := mX8_keep) (y := yX8_keep) eX8_appendPromise_53 (xw_5 lRX8_137 wy_X8_keep) rfl ⟨wd_X8_keep, by decide, by decide⟩ (by decide) (fun _ => rfl) rfl (Nat.le_of_ble_eq_true rfl) rfl (k_X8_keep (p := N) (g := 3) rfl rfl hN20 (by decide) hb ?_)
      rw [up_stM]
      refine xs_aload_0 eX8_appendPromise_56 ?_
      refine xs_iload_5 eX8_appendPromise_57 ?_
      refine xa_iconst eX8_appendPromise_59 ?_
      refine xs_iload_4 eX8_appendPromise_60 ?_
      refine xbv_V30 (mi' := mX8_keep) (y := yX8_keep) eX8_appendPromise_62 (xw_5 lRX8_137 wy_X8_keep) rfl ⟨wd_X8_keep, by decide, by decide⟩ (by decide) (fun _ => rfl) rfl (Nat.le_of_ble_eq_true rfl) rfl (k_X8_keep (p := N) (g := 4) rfl rfl hN20 (by decide) hd ?_)
      rw [up_stM]
      refine xs_aload_0 eX8_appendPromise_65 ?_
      refine xs_iload_5 eX8_appendPromise_66 ?_
      refine xa_iconst eX8_appendPromise_68 ?_
      refine xs_aload_0 eX8_appendPromise_69 ?_
      refine xa_iconst eX8_appendPromise_70 ?_
      refine xbi_V10 (mi' := mX8_number) (y := yX8_number) eX8_appendPromise_71 (xw_5 lRX8_65 wy_X8_number) rfl ⟨wd_X8_number, by decide, by decide⟩ (by decide) (fun _ => rfl) rfl (Nat.le_of_ble_eq_true rfl) rfl (k_X8_number (i := 0) rfl (by decide) ?_)
      rw [stM_31, show upM (upM (upM (upM (zrM (103 + 18 * N) i M) (103 + 18 * N + 1) o) (103 + 18 * N + 2) p) (103 + 18 * N + 3) b) (103 + 18 * N + 4) d 0 = M 0 by rw [upM_o (by omega), upM_o (by omega), upM_o (by omega), upM_o (by omega)]; unfold zrM; rw [if_neg (by omega)]]
      refine xbv_V30 (mi' := mX8_keep) (y := yX8_keep) eX8_appendPromise_74 (xw_5 lRX8_137 wy_X8_keep) rfl ⟨wd_X8_keep, by decide, by decide⟩ (by decide) (fun _ => rfl) rfl (Nat.le_of_ble_eq_true rfl) rfl (k_X8_keep (p := N) (g := 5) rfl rfl hN20 (by decide) ht ?_)
      rw [up_stM]
      refine xs_aload_0 eX8_appendPromise_77 ?_
      refine xs_iload_5 eX8_appendPromise_78 ?_
      refine xa_bipush eX8_appendPromise_80 (by decide) ?_
      refine xa_iconst eX8_appendPromise_82 ?_
      refine xbv_V30 (mi' := mX8_keep) (y := yX8_keep) eX8_appendPromise_83 (xw_5 lRX8_137 wy_X8_keep) rfl ⟨wd_X8_keep, by decide, by decide⟩ (by decide) (fun _ => rfl) rfl (Nat.le_of_ble_eq_true rfl) rfl (k_X8_keep (p := N) (g := 8) rfl rfl hN20 (by decide) (by decide) ?_)
      rw [up_stM]
      refine xs_aload_0 eX8_appendPromise_86 ?_
      refine xs_iload_5 eX8_appendPromise_87 ?_
      refine xa_bipush eX8_appendPromise_89 (by decide) ?_
      refine xa_iconst eX8_appendPromise_91 ?_
      refine xbv_V30 (mi' := mX8_keep) (y := yX8_keep) eX8_appendPromise_92 (xw_5 lRX8_137 wy_X8_keep) rfl ⟨wd_X8_keep, by decide, by decide⟩ (by decide) (fun _ => rfl) rfl (Nat.le_of_ble_eq_true rfl) rfl (k_X8_keep (p := N) (g := 9) rfl rfl hN20 (by decide) (by decide) ?_)
      rw [up_stM]
      refine xs_aload_0 eX8_appendPromise_95 ?_
      refine xs_iload_5 eX8_appendPromise_96 ?_
      refine xa_bipush eX8_appendPromise_98 (by decide) ?_
      refine xa_iconst eX8_appendPromise_100 ?_
      refine xbv_V30 (mi' := mX8_keep) (y := yX8_keep) eX8_appendPromise_101 (xw_5 lRX8_137 wy_X8_keep) rfl ⟨wd_X8_keep, by decide, by decide⟩ (by decide) (fun _ => rfl) rfl (Nat.le_of_ble_eq_true rfl) rfl (k_X8_keep (p := N) (g := 10) rfl rfl hN20 (by decide) (by decide) ?_)
      rw [up_stM]
      have eX : upM (upM (upM (upM (upM (upM (upM (upM (zrM (103 + 18 * N) i M) (103 + 18 * N + 1) o) (103 + 18 * N + 2) p) (103 + 18 * N + 3) b) (103 + 18 * N + 4) d) (103 + 18 * N + 5) (M 0)) (103 + 18 * N + 8) (-1)) (103 + 18 * N + 9) (-1)) (103 + 18 * N + 10) (-1) 2 = (N : Int) := by rw [upM_o (by omega), upM_o (by omega), upM_o (by omega), upM_o (by omega), upM_o (by omega), upM_o (by omega), upM_o (by omega), upM_o (by omega)]; unfold zrM; rw [if_neg (by omega), e2]
      refine xs_aload_0 eX8_appendPromise_104 ?_
      refine g_X8_0 eX8_appendPromise_105 lRX8_7 ?_
      refine xa_iconst eX8_appendPromise_108 ?_
      refine xa_dup2 eX8_appendPromise_109 rfl rfl ?_
      refine gar_31 eX8_appendPromise_110 (by decide) (fun r110 => ?_)
      refine xa_lconst1 eX8_appendPromise_111 ?_
      refine xa_ladd eX8_appendPromise_112 ?_
      refine pa_31 eX8_appendPromise_113 (by decide) (by rw [stM_31, show (2 : Int).toNat = 2 from rfl, eX]; omega) ?_
      rw [stM_31, show (2 : Int).toNat = 2 from rfl, eX, up_stM]
      refine xs_iload_5 eX8_appendPromise_114 ?_
      exact xa_iret eX8_appendPromise_116 rfl ⟨_, rfl, by rw [show i = 18 by omega]; exact hq⟩
    · refine xs_aload_0 eX8_appendPromise_17 ?_
      refine xs_iload_5 eX8_appendPromise_18 ?_
      refine xs_iload_6 eX8_appendPromise_20 ?_
      refine xa_iconst eX8_appendPromise_22 ?_
      refine xbv_V30 (mi' := mX8_keep) (y := yX8_keep) eX8_appendPromise_23 (xw_5 lRX8_137 wy_X8_keep) rfl ⟨wd_X8_keep, by decide, by decide⟩ (by decide) (fun _ => rfl) rfl (Nat.le_of_ble_eq_true rfl) rfl (k_X8_keep (p := N) (g := i) rfl rfl hN20 (by omega) (by decide) ?_)
      rw [up_stM]
      refine xs_iinc_6 eX8_appendPromise_26 rfl ?_
      refine xa_goto (tgt := 10) eX8_appendPromise_29 (by decide) ?_
      have h9 := ih (i + 1) (by omega) (by omega)
      rw [← zrM_s] at h9
      exact h9
  refine xs_aload_0 eX8_appendPromise_0 ?_
  refine xa_iconst eX8_appendPromise_1 ?_
  refine xbi_V10 (mi' := mX8_number) (y := yX8_number) eX8_appendPromise_2 (xw_5 lRX8_65 wy_X8_number) rfl ⟨wd_X8_number, by decide, by decide⟩ (by decide) (fun _ => rfl) rfl (Nat.le_of_ble_eq_true rfl) rfl (k_X8_number (i := 2) rfl (by decide) ?_)
  rw [stM_31, e2]
  refine xs_istore_5 eX8_appendPromise_5 rfl ?_
  refine xa_iconst eX8_appendPromise_7 ?_
  refine xs_istore_6 eX8_appendPromise_8 rfl ?_
  have h9 := lp 0 (by omega)
  rw [zrM_0] at h9
  exact h9
set_option maxHeartbeats 400000 in
theorem F_promise {w : xW} {S : xS} {B : String → xS → Prop} {A : Int → xS → Prop} {q p b d : Int} {n N : Nat} {T : Int} (hV : VS 0 n N T S) (hT : T ≤ 800000) (yq : xr q) (yp : xr p) (yb : xr b) (yd : xr d)  (hA : ∀ S', (o_promise q p b d n N S).1 = 0 → scr S' (o_promise q p b d n N S).2.2.2.2 → A (o_promise q p b d n N S).2.1 S') (hB1 : ∀ S', (o_promise q p b d n N S).1 = 1 → scr S' S → B "java/lang/IndexOutOfBoundsException" S') (hB2 : ∀ S', (o_promise q p b d n N S).1 = 2 → scr S' S → B "java/lang/IllegalArgumentException" S') (hB3 : ∀ S', (o_promise q p b d n N S).1 = 3 → scr S' S → B "java/lang/IllegalStateException" S') : Ki w mX7_promise yX7_promise 1 6 [xp 0 0, xi q, xi p, xi b, xi d] S A B := by
  refine K.of rfl rfl rfl rfl (Nat.le_of_ble_eq_true rfl) rfl ?_
  obtain ⟨hVT, hN20, h8, hg, hp, ho, hs⟩ := id hV
  have hn := hg.1
  have hN := hVT.1
  have ht := hVT.2.2.1
  refine xs_aload_0 eX7_promise_0 ?_
  refine g_X7_0 eX7_promise_1 lRX7_10 ?_
  refine xs_iload_1 eX7_promise_4 ?_
  by_cases c5 : 0 ≤ q ∧ q < (n : Int)
  · refine xbo_V10 (mi' := mX4_knownProcess) (y := yX4_knownProcess) eX7_promise_5 (xw_5 lRX7_60 wy_X4_knownProcess) rfl ⟨wd_X4_knownProcess, by decide, by decide⟩ (by decide) (fun _ => rfl) rfl (Nat.le_of_ble_eq_true rfl) rfl (kI_X4_knownProcess hn h8 c5 ?_)
    refine xa_pop eX7_promise_8 rfl ?_
    refine xs_iload_2 eX7_promise_9 ?_
    refine xs_iload_3 eX7_promise_10 ?_
    refine xs_iload_4 eX7_promise_11 ?_
    by_cases c13 : wshP p b d
    · refine xbv_S30 (mi' := mX7_checkPromise) (y := yX7_checkPromise) eX7_promise_13 (xw_4 lRX7_98 wy_X7_checkPromise) rfl rfl ⟨wd_X7_checkPromise, by decide, by decide⟩ (Nat.le_of_ble_eq_true rfl) rfl (kk_X7_checkPromise yp yb yd c13 ?_)
      refine xs_aload_0 eX7_promise_16 ?_
      refine g_X7_0 eX7_promise_17 lRX7_10 ?_
      refine g_X4_0 eX7_promise_20 lRX7_88 ?_
      refine gr_X5_1 eX7_promise_23 lRX7_101 (fun r23 => ?_)
      try rw [hN] at r23 ⊢
      refine xa_bipush eX7_promise_26 (by decide) ?_
      refine xa_icmp_ge (tgt := 35) eX7_promise_28 (by decide) (by omega) (by omega) (fun c28 => ?_) (fun c28 => ?_)
      · refine xa_iconst eX7_promise_35 ?_
        exact xbv_S1 (mi' := mX7_checkState) (y := yX7_checkState) eX7_promise_36 (xw_4 lRX7_53 wy_X7_checkState) rfl rfl ⟨wd_X7_checkState, by decide, by decide⟩ (Nat.le_of_ble_eq_true rfl) rfl ⟨by decide, by decide⟩ (kt_X7_checkState (P := False) id (xt_out rfl (hB3 S (by unfold o_promise; rw [if_pos c5, if_pos c13, if_neg (by omega)]) scr.rf)))
      · refine xa_iconst eX7_promise_31 ?_
        refine xa_goto (tgt := 36) eX7_promise_32 (by decide) ?_
        refine xbv_S10 (mi' := mX7_checkState) (y := yX7_checkState) eX7_promise_36 (xw_4 lRX7_53 wy_X7_checkState) rfl rfl ⟨wd_X7_checkState, by decide, by decide⟩ (Nat.le_of_ble_eq_true rfl) rfl (kk_X7_checkState (P := True) trivial ?_)
        refine xs_aload_0 eX7_promise_39 ?_
        refine g_X7_4 eX7_promise_40 lRX7_30 ?_
        refine xs_aload_0 eX7_promise_43 ?_
        refine g_X7_0 eX7_promise_44 lRX7_10 ?_
        refine g_X4_0 eX7_promise_47 lRX7_88 ?_
        refine xs_iload_2 eX7_promise_50 ?_
        refine xs_iload_3 eX7_promise_51 ?_
        refine xs_iload_4 eX7_promise_52 ?_
        refine xbi_V40 (mi' := mX5_accepts) (y := yX5_accepts) eX7_promise_54 (xw_5 lRX7_104 wy_X5_accepts) rfl ⟨wd_X5_accepts, by decide, by decide⟩ (by decide) (fun _ => rfl) rfl (Nat.le_of_ble_eq_true rfl) rfl (f_X5_accepts (t := 0) (u := 5) (by decide) hVT hN20 (by have z := c13.1; omega) c13.2.1 (by have z := c13; omega) (by omega) (fun S1 hx1 => ?_))
        by_cases c57 : accF 0 5 N p b d S = true
        · refine xbv_S10 (mi' := mX7_checkState) (y := yX7_checkState) eX7_promise_57 (xw_4 lRX7_53 wy_X7_checkState) rfl rfl ⟨wd_X7_checkState, by decide, by decide⟩ (Nat.le_of_ble_eq_true rfl) rfl (kk_X7_checkState c57 ?_)
          refine xs_aload_0 eX7_promise_60 ?_
          refine g_X7_0 eX7_promise_61 lRX7_10 ?_
          refine g_X4_0 eX7_promise_64 lRX7_88 ?_
          refine xs_iload_1 eX7_promise_67 ?_
          refine xs_iload_2 eX7_promise_68 ?_
          refine xs_iload_3 eX7_promise_69 ?_
          refine xs_iload_4 eX7_promise_70 ?_
          refine xbv_V40 (mi' := mX5_add) (y := yX5_add) eX7_promise_72 (xw_5 lRX7_108 wy_X5_add) rfl ⟨wd_X5_add, by decide, by decide⟩ (by decide) (fun _ => rfl) rfl (Nat.le_of_ble_eq_true rfl) rfl (f_X5_add (hVT.xtl hx1 (by decide)) (by omega) (by omega) yq (by have z := c13.1; omega) c13.2.1 (by have z := c13; omega) ?_)
          refine xs_aload_0 eX7_promise_75 ?_
          refine g_X7_0 eX7_promise_76 lRX7_10 ?_
          refine g_X4_0 eX7_promise_79 lRX7_88 ?_
          refine gr_X5_1 eX7_promise_82 lRX7_101 (fun r82 => ?_)
          try simp (decide := true) only [addT, if_true, and_true, true_and] at r82 ⊢
          refine xa_iconst eX7_promise_85 ?_
          refine xa_isub eX7_promise_86 ?_
          exact xa_iret eX7_promise_87 rfl ⟨_, rfl, by have h9 := hA; unfold o_promise at h9; rw [if_pos c5, if_pos c13, if_pos (by omega), if_pos c57] at h9; have h7 := h9 _ rfl (addT_scr (N := N) (o := q) (p := p) (b := b) (d := d) (hx1.scr (by decide))); unfold addT at h7; rw [show (N : Int) + 1 - 1 = (N : Int) by omega]; exact h7⟩
        · exact xbv_S1 (mi' := mX7_checkState) (y := yX7_checkState) eX7_promise_57 (xw_4 lRX7_53 wy_X7_checkState) rfl rfl ⟨wd_X7_checkState, by decide, by decide⟩ (Nat.le_of_ble_eq_true rfl) rfl ⟨by decide, by decide⟩ (kt_X7_checkState c57 (xt_out rfl (hB3 S1 (by unfold o_promise; rw [if_pos c5, if_pos c13, if_pos (by omega), if_neg c57]) (hx1.scr (by decide)))))
    · exact xbv_S3 (mi' := mX7_checkPromise) (y := yX7_checkPromise) eX7_promise_13 (xw_4 lRX7_98 wy_X7_checkPromise) rfl rfl ⟨wd_X7_checkPromise, by decide, by decide⟩ (Nat.le_of_ble_eq_true rfl) rfl ⟨by decide, by decide⟩ (kt_X7_checkPromise yp yb yd c13 (xt_out rfl (hB2 S (by unfold o_promise; rw [if_pos c5, if_neg c13]) scr.rf)))
  · exact xbo_V1 (mi' := mX4_knownProcess) (y := yX4_knownProcess) eX7_promise_5 (xw_5 lRX7_60 wy_X4_knownProcess) rfl ⟨wd_X4_knownProcess, by decide, by decide⟩ (by decide) (fun _ => rfl) rfl (Nat.le_of_ble_eq_true rfl) rfl ⟨by decide, by decide⟩ (kt_X4_knownProcess hn h8 yq c5 (xt_out rfl (hB1 S (by unfold o_promise; rw [if_neg c5]) scr.rf)))
set_option maxHeartbeats 400000 in
theorem G_promise {w : xW} {S : xS} {B : String → xS → Prop} {A : Int → xS → Prop} {q p b d : Int} {n N : Nat} {T : Int} {C : xS} {M : Nat → Int} (hV : VS 0 n N T C) (hT : T ≤ 800000) (hR : Rel 0 n N C M) (yq : xr q) (yp : xr p) (yb : xr b) (yd : xr d)  (hq : ∀ r S' M', ((o_promise q p b d n N C).1 = 0 → r = (o_promise q p b d n N C).2.1) → rfr S' S → S' 30 0 4 = ((o_promise q p b d n N C).1 : Int) → Rel 0 (o_promise q p b d n N C).2.2.1 (o_promise q p b d n N C).2.2.2.1 (o_promise q p b d n N C).2.2.2.2 M' → A r (stM M' S')) : Ki w mX8_promise yX8_promise 0 0 [xp 30 0, xi q, xi p, xi b, xi d] (stM M S) A B := by
  refine K.of rfl rfl rfl rfl (Nat.le_of_ble_eq_true rfl) rfl ?_
  obtain ⟨hVT, hN20, h8, hg, hp, ho, hs⟩ := id hV
  have hn := hg.1
  have hN := hVT.1
  have ht := hVT.2.2.1
  have hM1 : M 1 = (n : Int) := by rw [hR.1 1 (by decide)]; exact hn
  have hM2 : M 2 = (N : Int) := by rw [hR.1 2 (by decide)]; exact hN
  refine xs_aload_0 eX8_promise_0 ?_
  refine xs_iload_1 eX8_promise_1 ?_
  refine xs_iload_2 eX8_promise_2 ?_
  refine xs_iload_3 eX8_promise_3 ?_
  refine xs_iload_4 eX8_promise_4 ?_
  refine xbi_S30 (mi' := mX8_isWish) (y := yX8_isWish) eX8_promise_6 (xw_4 lRX8_167 wy_X8_isWish) rfl rfl ⟨wd_X8_isWish, by decide, by decide⟩ (Nat.le_of_ble_eq_true rfl) rfl (k_X8_isWish yp yb yd ?_)
  refine xbi_V20 (mi' := mX8_isRefused) (y := yX8_isRefused) eX8_promise_9 (xw_5 lRX8_102 wy_X8_isRefused) rfl ⟨wd_X8_isRefused, by decide, by decide⟩ (by decide) (fun _ => rfl) rfl (Nat.le_of_ble_eq_true rfl) rfl (r_X8_isRefused hV hR yq (fun k1 => ?_) (fun k1 k2 => ?_) (fun k1 k2 => ?_))
  · refine xa_if_eq (tgt := 17) eX8_promise_12 (by decide) (by decide) (fun c12 => ?_) (fun c12 => ?_)
    · exact absurd c12 (by decide)
    · refine xa_iconst eX8_promise_15 ?_
      exact xa_iret eX8_promise_16 rfl ⟨_, rfl, by have h9 := hq; unfold o_promise at h9; rw [if_neg k1] at h9; exact h9 _ _ _ (fun z => absurd z (Nat.succ_ne_zero _)) rfr.t (by rw [up_same]; rfl) hR⟩
  · refine xa_if_eq (tgt := 17) eX8_promise_12 (by decide) (by decide) (fun c12 => ?_) (fun c12 => ?_)
    · exact absurd c12 (by decide)
    · refine xa_iconst eX8_promise_15 ?_
      exact xa_iret eX8_promise_16 rfl ⟨_, rfl, by have h9 := hq; unfold o_promise at h9; rw [if_pos k1, if_neg k2] at h9; exact h9 _ _ _ (fun z => absurd z (Nat.succ_ne_zero _)) rfr.t (by rw [up_same]; rfl) hR⟩
  · refine xa_if_eq (tgt := 17) eX8_promise_12 (by decide) (by decide) (fun c12 => ?_) (fun c12 => ?_)
    · refine xs_aload_0 eX8_promise_17 ?_
      refine g_X8_0 eX8_promise_18 lRX8_7 ?_
      refine xa_iconst eX8_promise_21 ?_
      refine gar_31 eX8_promise_22 (by decide) (fun r22 => ?_)
      try simp (decide := true) only [stM_31, stM_k, up_same, hM1, hM2, show (0 : Int).toNat = 0 from rfl, show (1 : Int).toNat = 1 from rfl, show (2 : Int).toNat = 2 from rfl, show (3 : Int).toNat = 3 from rfl, show (4 : Int).toNat = 4 from rfl, show (5 : Int).toNat = 5 from rfl, show (6 : Int).toNat = 6 from rfl, show (7 : Int).toNat = 7 from rfl, show (8 : Int).toNat = 8 from rfl, show (9 : Int).toNat = 9 from rfl, show (10 : Int).toNat = 10 from rfl, show (11 : Int).toNat = 11 from rfl, show (12 : Int).toNat = 12 from rfl, show (13 : Int).toNat = 13 from rfl, show (14 : Int).toNat = 14 from rfl, Int.toNat_natCast] at r22 ⊢
      refine xa_ldc2 (a := 20) eX8_promise_23 lRX8_171 (by decide) ?_
      refine xa_lcmp eX8_promise_26 (by omega) (by decide) ?_
      refine xa_ifc_eq (tgt := 41) eX8_promise_27 (by decide) (fun c27 => ?_) (fun c27 => ?_)
      · refine xs_aload_0 eX8_promise_41 ?_
        refine xa_iconst eX8_promise_42 ?_
        refine xbi_V10 (mi' := mX8_fail) (y := yX8_fail) eX8_promise_43 (xw_5 lRX8_89 wy_X8_fail) rfl ⟨wd_X8_fail, by decide, by decide⟩ (by decide) (fun _ => rfl) rfl (Nat.le_of_ble_eq_true rfl) rfl (k_X8_fail (by decide) ?_)
        rw [up_stO (by decide)]
        refine xa_goto (tgt := 58) eX8_promise_46 (by decide) ?_
        exact xa_iret eX8_promise_58 rfl ⟨_, rfl, by have h9 := hq; unfold o_promise at h9; rw [if_pos k1, if_pos k2, if_neg (by omega)] at h9; exact h9 _ _ _ (fun z => absurd z (Nat.succ_ne_zero _)) (rfr.t.tr rfr.t) (by rw [up_same]; rfl) hR⟩
      · refine xs_aload_0 eX8_promise_30 ?_
        refine xs_iload_2 eX8_promise_31 ?_
        refine xs_iload_3 eX8_promise_32 ?_
        refine xs_iload_4 eX8_promise_33 ?_
        refine xbi_V30 (mi' := mX8_accepts) (y := yX8_accepts) eX8_promise_35 (xw_5 lRX8_173 wy_X8_accepts) rfl ⟨wd_X8_accepts, by decide, by decide⟩ (by decide) (fun _ => rfl) rfl (Nat.le_of_ble_eq_true rfl) rfl (r_X8_accepts hV (by omega) hR (by have z := k2.1; omega) k2.2.1 (by have z := k2; omega) (fun S1 h1 => ?_))
        refine xa_ifb_ne (tgt := 49) eX8_promise_38 (by decide) (fun c38 => ?_) (fun c38 => ?_)
        · refine xs_aload_0 eX8_promise_49 ?_
          refine xs_iload_1 eX8_promise_50 ?_
          refine xs_iload_2 eX8_promise_51 ?_
          refine xs_iload_3 eX8_promise_52 ?_
          refine xs_iload_4 eX8_promise_53 ?_
          refine xbi_V40 (mi' := mX8_appendPromise) (y := yX8_appendPromise) eX8_promise_55 (xw_5 lRX8_176 wy_X8_appendPromise) rfl ⟨wd_X8_appendPromise, by decide, by decide⟩ (by decide) (fun _ => rfl) rfl (Nat.le_of_ble_eq_true rfl) rfl (r_X8_appendPromise hM2 (by omega) yq yp yb yd (by rw [hR.1 0 (by decide)]; show xr (C 2 0 2); omega) ?_)
          exact xa_iret eX8_promise_58 rfl ⟨_, rfl, by have h9 := hq; unfold o_promise at h9; rw [if_pos k1, if_pos k2, if_pos (by omega), if_pos c38] at h9; exact h9 _ _ _ (fun _ => rfl) (h1.1.tr rfr.t) (by rw [h1.2 4 (by decide) (by decide), up_same]; rfl) (hR.pro (by omega) ht.1)⟩
        · refine xs_aload_0 eX8_promise_41 ?_
          refine xa_iconst eX8_promise_42 ?_
          refine xbi_V10 (mi' := mX8_fail) (y := yX8_fail) eX8_promise_43 (xw_5 lRX8_89 wy_X8_fail) rfl ⟨wd_X8_fail, by decide, by decide⟩ (by decide) (fun _ => rfl) rfl (Nat.le_of_ble_eq_true rfl) rfl (k_X8_fail (by decide) ?_)
          rw [up_stO (by decide)]
          refine xa_goto (tgt := 58) eX8_promise_46 (by decide) ?_
          exact xa_iret eX8_promise_58 rfl ⟨_, rfl, by have h9 := hq; unfold o_promise at h9; rw [if_pos k1, if_pos k2, if_pos (by omega), if_neg c38] at h9; exact h9 _ _ _ (fun z => absurd z (Nat.succ_ne_zero _)) (rfr.t.tr (h1.1.tr rfr.t)) (by rw [up_same]; rfl) hR⟩
    · exact absurd rfl c12
set_option maxHeartbeats 400000 in
theorem F_canAccept {w : xW} {S : xS} {B : String → xS → Prop} {A : Int → xS → Prop} {p b d : Int} {n N : Nat} {T : Int} (hV : VS 0 n N T S) (hT : T ≤ 800000) (yp : xr p) (yb : xr b) (yd : xr d)  (hA : ∀ S', (o_canAccept p b d n N S).1 = 0 → scr S' (o_canAccept p b d n N S).2.2.2.2 → A (o_canAccept p b d n N S).2.1 S') (hB1 : ∀ S', (o_canAccept p b d n N S).1 = 1 → scr S' S → B "java/lang/IllegalArgumentException" S') : Ki w mX7_canAccept yX7_canAccept 1 6 [xp 0 0, xi p, xi b, xi d] S A B := by
  refine K.of rfl rfl rfl rfl (Nat.le_of_ble_eq_true rfl) rfl ?_
  obtain ⟨hVT, hN20, h8, hg, hp, ho, hs⟩ := id hV
  have hn := hg.1
  have hN := hVT.1
  have ht := hVT.2.2.1
  refine xs_iload_1 eX7_canAccept_0 ?_
  refine xs_iload_2 eX7_canAccept_1 ?_
  refine xs_iload_3 eX7_canAccept_2 ?_
  by_cases c3 : wshP p b d
  · refine xbv_S30 (mi' := mX7_checkPromise) (y := yX7_checkPromise) eX7_canAccept_3 (xw_4 lRX7_98 wy_X7_checkPromise) rfl rfl ⟨wd_X7_checkPromise, by decide, by decide⟩ (Nat.le_of_ble_eq_true rfl) rfl (kk_X7_checkPromise yp yb yd c3 ?_)
    refine xs_aload_0 eX7_canAccept_6 ?_
    refine g_X7_4 eX7_canAccept_7 lRX7_30 ?_
    refine xs_aload_0 eX7_canAccept_10 ?_
    refine g_X7_0 eX7_canAccept_11 lRX7_10 ?_
    refine g_X4_0 eX7_canAccept_14 lRX7_88 ?_
    refine xs_iload_1 eX7_canAccept_17 ?_
    refine xs_iload_2 eX7_canAccept_18 ?_
    refine xs_iload_3 eX7_canAccept_19 ?_
    refine xbi_V40 (mi' := mX5_accepts) (y := yX5_accepts) eX7_canAccept_20 (xw_5 lRX7_104 wy_X5_accepts) rfl ⟨wd_X5_accepts, by decide, by decide⟩ (by decide) (fun _ => rfl) rfl (Nat.le_of_ble_eq_true rfl) rfl (f_X5_accepts (t := 0) (u := 5) (by decide) hVT hN20 (by have z := c3.1; omega) c3.2.1 (by have z := c3; omega) (by omega) (fun S1 hx1 => ?_))
    exact xa_zret eX7_canAccept_23 rfl (b2i_01 _) ⟨_, rfl, by have h9 := hA; unfold o_canAccept at h9; rw [if_pos c3] at h9; exact h9 _ rfl (hx1.scr (by decide))⟩
  · exact xbv_S3 (mi' := mX7_checkPromise) (y := yX7_checkPromise) eX7_canAccept_3 (xw_4 lRX7_98 wy_X7_checkPromise) rfl rfl ⟨wd_X7_checkPromise, by decide, by decide⟩ (Nat.le_of_ble_eq_true rfl) rfl ⟨by decide, by decide⟩ (kt_X7_checkPromise yp yb yd c3 (xt_out rfl (hB1 S (by unfold o_canAccept; rw [if_neg c3]) scr.rf)))
set_option maxHeartbeats 400000 in
theorem G_canAccept {w : xW} {S : xS} {B : String → xS → Prop} {A : Int → xS → Prop} {p b d : Int} {n N : Nat} {T : Int} {C : xS} {M : Nat → Int} (hV : VS 0 n N T C) (hT : T ≤ 800000) (hR : Rel 0 n N C M) (yp : xr p) (yb : xr b) (yd : xr d)  (hq : ∀ r S' M', ((o_canAccept p b d n N C).1 = 0 → r = (o_canAccept p b d n N C).2.1) → rfr S' S → S' 30 0 4 = ((o_canAccept p b d n N C).1 : Int) → Rel 0 (o_canAccept p b d n N C).2.2.1 (o_canAccept p b d n N C).2.2.2.1 (o_canAccept p b d n N C).2.2.2.2 M' → A r (stM M' S')) : Ki w mX8_canAccept yX8_canAccept 0 0 [xp 30 0, xi p, xi b, xi d] (stM M S) A B := by
  refine K.of rfl rfl rfl rfl (Nat.le_of_ble_eq_true rfl) rfl ?_
  obtain ⟨hVT, hN20, h8, hg, hp, ho, hs⟩ := id hV
  have hn := hg.1
  have hN := hVT.1
  have ht := hVT.2.2.1
  have hM1 : M 1 = (n : Int) := by rw [hR.1 1 (by decide)]; exact hn
  have hM2 : M 2 = (N : Int) := by rw [hR.1 2 (by decide)]; exact hN
  refine xs_aload_0 eX8_canAccept_0 ?_
  refine xs_iload_1 eX8_canAccept_1 ?_
  refine xs_iload_2 eX8_canAccept_2 ?_
  refine xs_iload_3 eX8_canAccept_3 ?_
  refine xbi_S30 (mi' := mX8_isWish) (y := yX8_isWish) eX8_canAccept_4 (xw_4 lRX8_167 wy_X8_isWish) rfl rfl ⟨wd_X8_isWish, by decide, by decide⟩ (Nat.le_of_ble_eq_true rfl) rfl (k_X8_isWish yp yb yd ?_)
  refine xa_ifb_eq (tgt := 14) eX8_canAccept_7 (by decide) (fun c7 => ?_) (fun c7 => ?_)
  · refine xa_iconst eX8_canAccept_14 ?_
    refine p_X8_4 eX8_canAccept_15 lRX8_52 (by decide) ?_
    rw [up_stO (by decide)]
    refine xs_aload_0 eX8_canAccept_18 ?_
    refine gr_X8_4 eX8_canAccept_19 lRX8_52 (fun r19 => ?_)
    try simp (decide := true) only [stM_31, stM_k, up_same, hM1, hM2, show (0 : Int).toNat = 0 from rfl, show (1 : Int).toNat = 1 from rfl, show (2 : Int).toNat = 2 from rfl, show (3 : Int).toNat = 3 from rfl, show (4 : Int).toNat = 4 from rfl, show (5 : Int).toNat = 5 from rfl, show (6 : Int).toNat = 6 from rfl, show (7 : Int).toNat = 7 from rfl, show (8 : Int).toNat = 8 from rfl, show (9 : Int).toNat = 9 from rfl, show (10 : Int).toNat = 10 from rfl, show (11 : Int).toNat = 11 from rfl, show (12 : Int).toNat = 12 from rfl, show (13 : Int).toNat = 13 from rfl, show (14 : Int).toNat = 14 from rfl, Int.toNat_natCast] at r19 ⊢
    refine xa_if_ne (tgt := 39) eX8_canAccept_22 (by decide) (by decide) (fun c22 => ?_) (fun c22 => ?_)
    · refine xa_iconst eX8_canAccept_39 ?_
      exact xa_zret eX8_canAccept_40 rfl (by decide) ⟨_, rfl, by have h9 := hq; unfold o_canAccept at h9; rw [if_neg c7] at h9; exact h9 _ _ _ (fun z => absurd z (Nat.succ_ne_zero _)) rfr.t (by rw [up_same]; rfl) hR⟩
    · exact absurd c22 (by decide)
  · refine xa_iconst eX8_canAccept_10 ?_
    refine xa_goto (tgt := 15) eX8_canAccept_11 (by decide) ?_
    refine p_X8_4 eX8_canAccept_15 lRX8_52 (by decide) ?_
    rw [up_stO (by decide)]
    refine xs_aload_0 eX8_canAccept_18 ?_
    refine gr_X8_4 eX8_canAccept_19 lRX8_52 (fun r19 => ?_)
    try simp (decide := true) only [stM_31, stM_k, up_same, hM1, hM2, show (0 : Int).toNat = 0 from rfl, show (1 : Int).toNat = 1 from rfl, show (2 : Int).toNat = 2 from rfl, show (3 : Int).toNat = 3 from rfl, show (4 : Int).toNat = 4 from rfl, show (5 : Int).toNat = 5 from rfl, show (6 : Int).toNat = 6 from rfl, show (7 : Int).toNat = 7 from rfl, show (8 : Int).toNat = 8 from rfl, show (9 : Int).toNat = 9 from rfl, show (10 : Int).toNat = 10 from rfl, show (11 : Int).toNat = 11 from rfl, show (12 : Int).toNat = 12 from rfl, show (13 : Int).toNat = 13 from rfl, show (14 : Int).toNat = 14 from rfl, Int.toNat_natCast] at r19 ⊢
    refine xa_if_ne (tgt := 39) eX8_canAccept_22 (by decide) (by decide) (fun c22 => ?_) (fun c22 => ?_)
    · exact absurd rfl c22
    · refine xs_aload_0 eX8_canAccept_25 ?_
      refine xs_iload_1 eX8_canAccept_26 ?_
      refine xs_iload_2 eX8_canAccept_27 ?_
      refine xs_iload_3 eX8_canAccept_28 ?_
      refine xbi_V30 (mi' := mX8_accepts) (y := yX8_accepts) eX8_canAccept_29 (xw_5 lRX8_173 wy_X8_accepts) rfl ⟨wd_X8_accepts, by decide, by decide⟩ (by decide) (fun _ => rfl) rfl (Nat.le_of_ble_eq_true rfl) rfl (r_X8_accepts hV (by omega) hR (by have z := c7.1; omega) c7.2.1 (by have z := c7; omega) (fun S1 h1 => ?_))
      refine xa_ifb_eq (tgt := 39) eX8_canAccept_32 (by decide) (fun c32 => ?_) (fun c32 => ?_)
      · refine xa_iconst eX8_canAccept_39 ?_
        exact xa_zret eX8_canAccept_40 rfl (by decide) ⟨_, rfl, by have h9 := hq; unfold o_canAccept at h9; rw [if_pos c7, b2i, if_neg c32] at h9; exact h9 _ _ _ (fun _ => rfl) (h1.1.tr rfr.t) (by rw [h1.2 4 (by decide) (by decide), up_same]; rfl) hR⟩
      · refine xa_iconst eX8_canAccept_35 ?_
        refine xa_goto (tgt := 40) eX8_canAccept_36 (by decide) ?_
        exact xa_zret eX8_canAccept_40 rfl (by decide) ⟨_, rfl, by have h9 := hq; unfold o_canAccept at h9; rw [if_pos c7, b2i, if_pos c32] at h9; exact h9 _ _ _ (fun _ => rfl) (h1.1.tr rfr.t) (by rw [h1.2 4 (by decide) (by decide), up_same]; rfl) hR⟩
set_option maxHeartbeats 400000 in
theorem F_greatestBudget {w : xW} {S : xS} {B : String → xS → Prop} {A : Int → xS → Prop} {p d : Int} {n N : Nat} {T : Int} (hV : VS 0 n N T S) (hT : T ≤ 800000) (yp : xr p) (yd : xr d)  (hA : ∀ S', (o_greatestBudget p d n N S).1 = 0 → scr S' (o_greatestBudget p d n N S).2.2.2.2 → A (o_greatestBudget p d n N S).2.1 S') (hB1 : ∀ S', (o_greatestBudget p d n N S).1 = 1 → scr S' S → B "java/lang/IllegalArgumentException" S') : Ki w mX7_greatestBudget yX7_greatestBudget 1 6 [xp 0 0, xi p, xi d] S A B := by
  refine K.of rfl rfl rfl rfl (Nat.le_of_ble_eq_true rfl) rfl ?_
  obtain ⟨hVT, hN20, h8, hg, hp, ho, hs⟩ := id hV
  have hn := hg.1
  have hN := hVT.1
  have ht := hVT.2.2.1
  refine xs_iload_1 eX7_greatestBudget_0 ?_
  refine xbi_S10 (mi' := mX7_isPeriod) (y := yX7_isPeriod) eX7_greatestBudget_1 (xw_4 lRX7_112 wy_X7_isPeriod) rfl rfl ⟨wd_X7_isPeriod, by decide, by decide⟩ (Nat.le_of_ble_eq_true rfl) rfl (k_X7_isPeriod yp ?_)
  by_cases c4 : perP p
  · refine xbv_S10 (mi' := mX7_checkArgument) (y := yX7_checkArgument) eX7_greatestBudget_4 (xw_4 lRX7_116 wy_X7_checkArgument) rfl rfl ⟨wd_X7_checkArgument, by decide, by decide⟩ (Nat.le_of_ble_eq_true rfl) rfl (kk_X7_checkArgument c4 ?_)
    refine xs_iload_2 eX7_greatestBudget_7 ?_
    refine xa_iconst eX7_greatestBudget_8 ?_
    refine xs_iload_1 eX7_greatestBudget_9 ?_
    by_cases c10 : 1 ≤ d ∧ d ≤ p
    · refine xbv_S30 (mi' := mX7_checkRange) (y := yX7_checkRange) eX7_greatestBudget_10 (xw_4 lRX7_45 wy_X7_checkRange) rfl rfl ⟨wd_X7_checkRange, by decide, by decide⟩ (Nat.le_of_ble_eq_true rfl) rfl (kk_X7_checkRange yd (by decide) yp c10 ?_)
      have hdp : 1 ≤ p ∧ p ≤ 120 := by have z := c4; omega
      have lp : ∀ i : Nat, i ≤ d.toNat → ∀ S1, xtl 5 S1 S ∧ gbF p d N S (d.toNat - i) = gbF p d N S d.toNat → X w mX7_greatestBudget (xTG w (fun v S' => ∃ a, v = some (xi a) ∧ A a S') B) 1 6 15 [xp 0 0, xi p, xi d, xi ((d.toNat - i : Nat) : Int)] [] S1 := by
        refine nloop d.toNat (fun i hi ih S1 hI => ?_)
        refine xs_iload_3 eX7_greatestBudget_15 ?_
        refine xa_if_le (tgt := 45) eX7_greatestBudget_16 (by decide) (by omega) (fun c16 => ?_) (fun c16 => ?_)
        · refine xs_iload_3 eX7_greatestBudget_45 ?_
          exact xa_iret eX7_greatestBudget_46 rfl ⟨_, rfl, by have h9 := hA; unfold o_greatestBudget at h9; rw [if_pos c4, if_pos c10, ← hI.2, show d.toNat - i = 0 by omega, gbF] at h9; rw [show ((d.toNat - i : Nat) : Int) = 0 by omega]; exact h9 S1 rfl (hI.1.scr (by decide))⟩
        · refine xs_aload_0 eX7_greatestBudget_19 ?_
          refine g_X7_4 eX7_greatestBudget_20 lRX7_30 ?_
          refine xs_aload_0 eX7_greatestBudget_23 ?_
          refine g_X7_0 eX7_greatestBudget_24 lRX7_10 ?_
          refine g_X4_0 eX7_greatestBudget_27 lRX7_88 ?_
          refine xs_iload_1 eX7_greatestBudget_30 ?_
          refine xs_iload_3 eX7_greatestBudget_31 ?_
          refine xs_iload_2 eX7_greatestBudget_32 ?_
          refine xbi_V40 (mi' := mX5_accepts) (y := yX5_accepts) eX7_greatestBudget_33 (xw_5 lRX7_104 wy_X5_accepts) rfl ⟨wd_X5_accepts, by decide, by decide⟩ (by decide) (fun _ => rfl) rfl (Nat.le_of_ble_eq_true rfl) rfl (f_X5_accepts (t := 0) (u := 5) (by decide) (hVT.xtl hI.1 (by decide)) hN20 (by omega) (by omega) (by omega) (by omega) (fun S2 hx2 => ?_))
          have hk1 : ((d.toNat - i : Nat) : Int) = (((d.toNat - (i + 1)) + 1 : Nat) : Int) := by omega
          have e : gbF p d N S (d.toNat - i) = (if accF 0 5 N p (((d.toNat - (i + 1)) + 1 : Nat) : Int) d S = true then (((d.toNat - (i + 1)) + 1 : Nat) : Int) else gbF p d N S (d.toNat - (i + 1))) := by rw [show d.toNat - i = (d.toNat - (i + 1)) + 1 by omega, gbF]
          have ea : accF 0 5 N p ((d.toNat - i : Nat) : Int) d S1 = accF 0 5 N p (((d.toNat - (i + 1)) + 1 : Nat) : Int) d S := by rw [hk1]; exact (tlq.xtl hI.1 (by omega) (by decide)).acc
          rw [ea]
          refine xa_ifb_ne (tgt := 45) eX7_greatestBudget_36 (by decide) (fun c36 => ?_) (fun c36 => ?_)
          · refine xs_iload_3 eX7_greatestBudget_45 ?_
            exact xa_iret eX7_greatestBudget_46 rfl ⟨_, rfl, by have h9 := hA; unfold o_greatestBudget at h9; rw [if_pos c4, if_pos c10, ← hI.2, e, if_pos c36] at h9; rw [hk1]; exact h9 S2 rfl ((hx2.tr hI.1).scr (by decide))⟩
          · refine xs_iinc_3 eX7_greatestBudget_39 rfl ?_
            refine xa_goto (tgt := 15) eX7_greatestBudget_42 (by decide) ?_
            have h9 := ih (i + 1) (by omega) (by omega) S2 ⟨hx2.tr hI.1, by rw [← hI.2, e, if_neg c36]⟩
            rw [show ((d.toNat - i : Nat) : Int) + -1 = ((d.toNat - (i + 1) : Nat) : Int) by omega]
            exact h9
      have h15 := lp 0 (by omega) S ⟨xtl.rf, by rw [Nat.sub_zero]⟩
      rw [show ((d.toNat - 0 : Nat) : Int) = d by omega] at h15
      refine xs_iload_2 eX7_greatestBudget_13 ?_
      refine xs_istore_3 eX7_greatestBudget_14 rfl ?_
      exact h15
    · exact xbv_S3 (mi' := mX7_checkRange) (y := yX7_checkRange) eX7_greatestBudget_10 (xw_4 lRX7_45 wy_X7_checkRange) rfl rfl ⟨wd_X7_checkRange, by decide, by decide⟩ (Nat.le_of_ble_eq_true rfl) rfl ⟨by decide, by decide⟩ (kt_X7_checkRange yd (by decide) yp c10 (xt_out rfl (hB1 S (by unfold o_greatestBudget; rw [if_pos c4, if_neg c10]) scr.rf)))
  · exact xbv_S1 (mi' := mX7_checkArgument) (y := yX7_checkArgument) eX7_greatestBudget_4 (xw_4 lRX7_116 wy_X7_checkArgument) rfl rfl ⟨wd_X7_checkArgument, by decide, by decide⟩ (Nat.le_of_ble_eq_true rfl) rfl ⟨by decide, by decide⟩ (kt_X7_checkArgument c4 (xt_out rfl (hB1 S (by unfold o_greatestBudget; rw [if_neg c4]) scr.rf)))
set_option maxHeartbeats 400000 in
theorem G_greatestBudget {w : xW} {S : xS} {B : String → xS → Prop} {A : Int → xS → Prop} {p d : Int} {n N : Nat} {T : Int} {C : xS} {M : Nat → Int} (hV : VS 0 n N T C) (hT : T ≤ 800000) (hR : Rel 0 n N C M) (yp : xr p) (yd : xr d)  (hq : ∀ r S' M', ((o_greatestBudget p d n N C).1 = 0 → r = (o_greatestBudget p d n N C).2.1) → rfr S' S → S' 30 0 4 = ((o_greatestBudget p d n N C).1 : Int) → Rel 0 (o_greatestBudget p d n N C).2.2.1 (o_greatestBudget p d n N C).2.2.2.1 (o_greatestBudget p d n N C).2.2.2.2 M' → A r (stM M' S')) : Ki w mX8_greatestBudget yX8_greatestBudget 0 0 [xp 30 0, xi p, xi d] (stM M S) A B := by
  refine K.of rfl rfl rfl rfl (Nat.le_of_ble_eq_true rfl) rfl ?_
  obtain ⟨hVT, hN20, h8, hg, hp, ho, hs⟩ := id hV
  have hn := hg.1
  have hN := hVT.1
  have ht := hVT.2.2.1
  have hM1 : M 1 = (n : Int) := by rw [hR.1 1 (by decide)]; exact hn
  have hM2 : M 2 = (N : Int) := by rw [hR.1 2 (by decide)]; exact hN
  refine xs_aload_0 eX8_greatestBudget_0 ?_
  refine xs_iload_1 eX8_greatestBudget_1 ?_
  refine xbi_S10 (mi' := mX8_isPeriod) (y := yX8_isPeriod) eX8_greatestBudget_2 (xw_4 lRX8_134 wy_X8_isPeriod) rfl rfl ⟨wd_X8_isPeriod, by decide, by decide⟩ (Nat.le_of_ble_eq_true rfl) rfl (k_X8_isPeriod yp ?_)
  refine xa_ifb_eq (tgt := 23) eX8_greatestBudget_5 (by decide) (fun c5 => ?_) (fun c5 => ?_)
  · refine xa_iconst eX8_greatestBudget_23 ?_
    refine p_X8_4 eX8_greatestBudget_24 lRX8_52 (by decide) ?_
    rw [up_stO (by decide)]
    refine xs_aload_0 eX8_greatestBudget_27 ?_
    refine gr_X8_4 eX8_greatestBudget_28 lRX8_52 (fun r28 => ?_)
    try simp (decide := true) only [stM_31, stM_k, up_same, hM1, hM2, show (0 : Int).toNat = 0 from rfl, show (1 : Int).toNat = 1 from rfl, show (2 : Int).toNat = 2 from rfl, show (3 : Int).toNat = 3 from rfl, show (4 : Int).toNat = 4 from rfl, show (5 : Int).toNat = 5 from rfl, show (6 : Int).toNat = 6 from rfl, show (7 : Int).toNat = 7 from rfl, show (8 : Int).toNat = 8 from rfl, show (9 : Int).toNat = 9 from rfl, show (10 : Int).toNat = 10 from rfl, show (11 : Int).toNat = 11 from rfl, show (12 : Int).toNat = 12 from rfl, show (13 : Int).toNat = 13 from rfl, show (14 : Int).toNat = 14 from rfl, Int.toNat_natCast] at r28 ⊢
    refine xa_if_eq (tgt := 36) eX8_greatestBudget_31 (by decide) (by decide) (fun c31 => ?_) (fun c31 => ?_)
    · exact absurd c31 (by decide)
    · refine xa_iconst eX8_greatestBudget_34 ?_
      exact xa_iret eX8_greatestBudget_35 rfl ⟨_, rfl, by first | (have h9 := hq; unfold o_greatestBudget at h9; rw [if_neg c5] at h9; exact h9 _ _ _ (fun z => absurd z (Nat.succ_ne_zero _)) rfr.t (by rw [up_same]; rfl) hR) | (have h9 := hq; unfold o_greatestBudget at h9; rw [if_pos c5, if_neg c16] at h9; exact h9 _ _ _ (fun z => absurd z (Nat.succ_ne_zero _)) rfr.t (by rw [up_same]; rfl) hR)⟩
  · refine xs_iload_2 eX8_greatestBudget_8 ?_
    refine xa_i2l eX8_greatestBudget_9 (by omega) ?_
    refine xa_lconst1 eX8_greatestBudget_10 ?_
    refine xs_iload_1 eX8_greatestBudget_11 ?_
    refine xa_i2l eX8_greatestBudget_12 (by omega) ?_
    refine xbi_S30 (mi' := mX8_isBetween) (y := yX8_isBetween) eX8_greatestBudget_13 (xw_4 lRX8_61 wy_X8_isBetween) rfl rfl ⟨wd_X8_isBetween, by decide, by decide⟩ (Nat.le_of_ble_eq_true rfl) rfl (k_X8_isBetween (by omega) (by decide) (by omega) ?_)
    refine xa_ifb_eq (tgt := 23) eX8_greatestBudget_16 (by decide) (fun c16 => ?_) (fun c16 => ?_)
    · refine xa_iconst eX8_greatestBudget_23 ?_
      refine p_X8_4 eX8_greatestBudget_24 lRX8_52 (by decide) ?_
      rw [up_stO (by decide)]
      refine xs_aload_0 eX8_greatestBudget_27 ?_
      refine gr_X8_4 eX8_greatestBudget_28 lRX8_52 (fun r28 => ?_)
      try simp (decide := true) only [stM_31, stM_k, up_same, hM1, hM2, show (0 : Int).toNat = 0 from rfl, show (1 : Int).toNat = 1 from rfl, show (2 : Int).toNat = 2 from rfl, show (3 : Int).toNat = 3 from rfl, show (4 : Int).toNat = 4 from rfl, show (5 : Int).toNat = 5 from rfl, show (6 : Int).toNat = 6 from rfl, show (7 : Int).toNat = 7 from rfl, show (8 : Int).toNat = 8 from rfl, show (9 : Int).toNat = 9 from rfl, show (10 : Int).toNat = 10 from rfl, show (11 : Int).toNat = 11 from rfl, show (12 : Int).toNat = 12 from rfl, show (13 : Int).toNat = 13 from rfl, show (14 : Int).toNat = 14 from rfl, Int.toNat_natCast] at r28 ⊢
      refine xa_if_eq (tgt := 36) eX8_greatestBudget_31 (by decide) (by decide) (fun c31 => ?_) (fun c31 => ?_)
      · exact absurd c31 (by decide)
      · refine xa_iconst eX8_greatestBudget_34 ?_
        exact xa_iret eX8_greatestBudget_35 rfl ⟨_, rfl, by first | (have h9 := hq; unfold o_greatestBudget at h9; rw [if_neg c5] at h9; exact h9 _ _ _ (fun z => absurd z (Nat.succ_ne_zero _)) rfr.t (by rw [up_same]; rfl) hR) | (have h9 := hq; unfold o_greatestBudget at h9; rw [if_pos c5, if_neg c16] at h9; exact h9 _ _ _ (fun z => absurd z (Nat.succ_ne_zero _)) rfr.t (by rw [up_same]; rfl) hR)⟩
    · refine xa_iconst eX8_greatestBudget_19 ?_
      refine xa_goto (tgt := 24) eX8_greatestBudget_20 (by decide) ?_
      refine p_X8_4 eX8_greatestBudget_24 lRX8_52 (by decide) ?_
      rw [up_stO (by decide)]
      refine xs_aload_0 eX8_greatestBudget_27 ?_
      refine gr_X8_4 eX8_greatestBudget_28 lRX8_52 (fun r28 => ?_)
      try simp (decide := true) only [stM_31, stM_k, up_same, hM1, hM2, show (0 : Int).toNat = 0 from rfl, show (1 : Int).toNat = 1 from rfl, show (2 : Int).toNat = 2 from rfl, show (3 : Int).toNat = 3 from rfl, show (4 : Int).toNat = 4 from rfl, show (5 : Int).toNat = 5 from rfl, show (6 : Int).toNat = 6 from rfl, show (7 : Int).toNat = 7 from rfl, show (8 : Int).toNat = 8 from rfl, show (9 : Int).toNat = 9 from rfl, show (10 : Int).toNat = 10 from rfl, show (11 : Int).toNat = 11 from rfl, show (12 : Int).toNat = 12 from rfl, show (13 : Int).toNat = 13 from rfl, show (14 : Int).toNat = 14 from rfl, Int.toNat_natCast] at r28 ⊢
      refine xa_if_eq (tgt := 36) eX8_greatestBudget_31 (by decide) (by decide) (fun c31 => ?_) (fun c31 => ?_)
      · have hdp : 1 ≤ p ∧ p ≤ 120 := by have z := c5; omega
        have lp : ∀ i : Nat, i ≤ d.toNat → ∀ S1, (rfr S1 S ∧ S1 30 0 4 = 0) ∧ gbF p d N C (d.toNat - i) = gbF p d N C d.toNat → X w mX8_greatestBudget (xTG w (fun v S' => ∃ a, v = some (xi a) ∧ A a S') B) 0 0 38 [xp 30 0, xi p, xi d, xi ((d.toNat - i : Nat) : Int)] [] (stM M S1) := by
          refine nloop d.toNat (fun i hi ih S1 hI => ?_)
          refine xs_iload_3 eX8_greatestBudget_38 ?_
          refine xa_if_le (tgt := 58) eX8_greatestBudget_39 (by decide) (by omega) (fun c39 => ?_) (fun c39 => ?_)
          · refine xs_iload_3 eX8_greatestBudget_58 ?_
            exact xa_iret eX8_greatestBudget_59 rfl ⟨_, rfl, by have h9 := hq; unfold o_greatestBudget at h9; rw [if_pos c5, if_pos c16, ← hI.2, show d.toNat - i = 0 by omega, gbF] at h9; exact h9 _ S1 M (fun _ => show _ = (0 : Int) by omega) hI.1.1 hI.1.2 hR⟩
          · refine xs_aload_0 eX8_greatestBudget_42 ?_
            refine xs_iload_1 eX8_greatestBudget_43 ?_
            refine xs_iload_3 eX8_greatestBudget_44 ?_
            refine xs_iload_2 eX8_greatestBudget_45 ?_
            refine xbi_V30 (mi' := mX8_accepts) (y := yX8_accepts) eX8_greatestBudget_46 (xw_5 lRX8_173 wy_X8_accepts) rfl ⟨wd_X8_accepts, by decide, by decide⟩ (by decide) (fun _ => rfl) rfl (Nat.le_of_ble_eq_true rfl) rfl (r_X8_accepts hV (by omega) hR (by omega) (by omega) (by omega) (fun S2 hx2 => ?_))
            have hk1 : ((d.toNat - i : Nat) : Int) = (((d.toNat - (i + 1)) + 1 : Nat) : Int) := by omega
            have e : gbF p d N C (d.toNat - i) = (if accF 0 5 N p (((d.toNat - (i + 1)) + 1 : Nat) : Int) d C = true then (((d.toNat - (i + 1)) + 1 : Nat) : Int) else gbF p d N C (d.toNat - (i + 1))) := by rw [show d.toNat - i = (d.toNat - (i + 1)) + 1 by omega, gbF]
            rw [hk1]
            refine xa_ifb_ne (tgt := 58) eX8_greatestBudget_49 (by decide) (fun c49 => ?_) (fun c49 => ?_)
            · refine xs_iload_3 eX8_greatestBudget_58 ?_
              exact xa_iret eX8_greatestBudget_59 rfl ⟨_, rfl, by have h9 := hq; unfold o_greatestBudget at h9; rw [if_pos c5, if_pos c16, ← hI.2, e, if_pos c49] at h9; exact h9 _ S2 M (fun _ => show _ = (((d.toNat - (i + 1)) + 1 : Nat) : Int) by omega) (hx2.1.tr hI.1.1) (by rw [hx2.2 4 (by decide) (by decide)]; exact hI.1.2) hR⟩
            · refine xs_iinc_3 eX8_greatestBudget_52 rfl ?_
              refine xa_goto (tgt := 38) eX8_greatestBudget_55 (by decide) ?_
              have h9 := ih (i + 1) (by omega) (by omega) S2 ⟨⟨hx2.1.tr hI.1.1, by rw [hx2.2 4 (by decide) (by decide)]; exact hI.1.2⟩, by rw [← hI.2, e, if_neg c49]⟩
              try rw [← hk1]
              rw [show ((d.toNat - i : Nat) : Int) + -1 = ((d.toNat - (i + 1) : Nat) : Int) by omega]
              exact h9
        have h15 := lp 0 (by omega) (up S 30 0 4 0) ⟨⟨rfr.t, up_same _ _ _ _ _⟩, by rw [Nat.sub_zero]⟩
        rw [show ((d.toNat - 0 : Nat) : Int) = d by omega] at h15
        refine xs_iload_2 eX8_greatestBudget_36 ?_
        refine xs_istore_3 eX8_greatestBudget_37 rfl ?_
        exact h15
      · exact absurd rfl c31
