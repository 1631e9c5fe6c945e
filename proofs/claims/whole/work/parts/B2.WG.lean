/-! the law: a text that is read -/
/-! the law: saved states, a text that is read -/
theorem PT.fl {n : Nat} {c : Int} {S : xS} (h : PT n S) : PT n (flS c S) := by
  unfold PT at h ⊢
  unfold flS
  rw [up_f (by decide), up_f (by decide), up_f (by decide), up_f (by decide), up_f (by decide), up_f (by decide), up_f (by decide), up_f (by decide), up_f (by decide), up_f (by decide)]
  exact h
theorem pt_bnd {n : Nat} {r : Bool × xS} {f : xS → Bool × xS} (h : PT n r.2) (g : ∀ S1, PT n S1 → PT n (f S1).2) : PT n (bnd r f).2 := by
  unfold bnd
  split
  · exact g _ h
  · exact h
theorem pt_N {n : Nat} {lo hi : Int} {S : xS} (h : PT n S) : PT n (rdN n lo hi S).2 := by
  unfold rdN
  split
  · split
    · exact h.nx
    · exact h.nx.fl
  · exact h.nx.fl
theorem pt_pro {n : Nat} {S : xS} (h : PT n S) : PT n (rdPro n S).2 := by
  unfold rdPro
  split
  · exact pt_bnd (pt_N h) (fun S1 h1 => pt_bnd (pt_N h1) (fun S2 h2 => pt_bnd (pt_N h2) (fun S3 h3 => (PT_ent h3).nx)))
  · exact h.fl
theorem pt_prm {n N : Nat} {S : xS} (h : PT n S) : PT n (rdPrm n N S).2 := by
  unfold rdPrm
  split
  · refine pt_bnd (pt_N h) (fun S1 h1 => pt_bnd (pt_N h1) (fun S2 h2 => ?_))
    split
    · refine pt_bnd (pt_N h2) (fun S3 h3 => pt_bnd (pt_N h3) (fun S4 h4 => ?_))
      split
      · exact (PT_add h4).nx
      · exact h4.fl
    · exact h2.fl
  · exact h.fl
theorem pt_stm {n N : Nat} {S : xS} (h : PT n S) : PT n (rdStm n N S).2 := by
  unfold rdStm
  split
  · exact pt_bnd (pt_N h) (fun S1 h1 => (PT_up h1 (by decide)).nx)
  · split
    · exact pt_bnd (pt_N h) (fun S1 h1 => (PT_up h1 (by decide)).nx)
    · split
      · refine pt_bnd (pt_pro h) (fun S1 h1 => ?_)
        split
        · exact pt_bnd (pt_N h1) (fun S2 h2 => pt_bnd (pt_N (PT_up h2 (by decide))) (fun S3 h3 => (PT_up h3 (by decide)).nx))
        · exact h1
      · split
        · refine pt_bnd (pt_prm h) (fun S1 h1 => ?_)
          split
          · exact pt_bnd (pt_N h1) (fun S2 h2 => (PT_up h2 (by decide)).nx)
          · exact h1
        · exact h.fl
theorem pt_sem {n : Nat} {S : xS} (h : PT n S) : PT n (rdSem n S).2 := by
  unfold rdSem
  split
  · exact h.nx
  · exact h.fl
theorem pt_chn {n : Nat} : ∀ {f : Nat} {S : xS} {r : Bool × xS}, PT n S → chn n f S r → PT n r.2
  | 0, S, r, h, hc => by
    obtain ⟨-, e⟩ := hc
    subst e
    exact h
  | f + 1, S, r, h, hc => by
    rcases hc with ⟨-, e⟩ | ⟨-, S1, hx, hc⟩
    · subst e; exact h
    · have h1 := PT_xtl (pt_stm h) hx
      rcases hc with ⟨c1, c2, c3⟩ | ⟨-, -, e⟩ | ⟨-, e⟩
      · exact pt_chn (pt_sem h1) c3
      · subst e; exact pt_sem h1
      · subst e; exact h1
/-- after a text was read -/
theorem INV.read {T : Int} {n N c k M : Nat} {S D : xS} (h : INV T n N c S) (hv : VS 0 k M T D) (hf : Fut 0 M D) (hr : Rel 0 k M D (D 31 0)) (e : ∀ x y, (x = 21 ∧ y = 0) ∨ (x = 34 ∧ y = 0) ∨ (x = 33 ∧ y = 0) ∨ (x = 1 ∧ (y = 2 ∨ y = 3)) ∨ (x = 2 ∧ (y = 2 ∨ y = 3)) ∨ (x = 4 ∧ 16 ≤ y ∧ y < 32) ∨ (x = 5 ∧ (y = 2 ∨ y = 3)) ∨ (x = 10 ∧ 64 ≤ y ∧ y < 128) ∨ (x = 25 ∧ (y = 2 ∨ y = 3)) → D x y = S x y) (t : TXI 0 D) : INV T k M 0 D := ⟨hv, hf, hr, t, h.2.2.2.2.step (Int.le_refl _) e⟩
set_option maxHeartbeats 400000 in
theorem c_read {w : xW} {TG : xT} {k n nn N c : Nat} {i T : Int} {l5 l6 l7 l8 : xV} {S : xS} (h : INV T nn N c S) (hT : 0 ≤ T ∧ T ≤ 790000) (hi : 0 ≤ i ∧ i + 4 < (w.2.2.2.2.2.1 : Int)) (hN : w.2.2.2.2.2.1 < 2147483648) (hk : ∀ (n' N' c' : Nat) (S' : xS) (l5 l6 l7 l8 : xV), INV (T + 1500) n' N' c' S' → X w mL_law TG k n 2358 [xp 52 0, xp 0 0, xp 30 0, xp 42 0, xi i, l5, l6, l7, l8] [] S') : X w mL_law TG (k + 1) (n + 6) 2247 [xp 52 0, xp 0 0, xp 30 0, xp 42 0, xi i, l5, l6, l7, l8] [] S := by
  obtain ⟨⟨t1, t2, t3, t4⟩, t5, t6, t7⟩ := id h.2.2.2.1
  have pt0 := VP_pr0 (T := T) hT.1 t2 t3 t7
  have fr0 : ∀ r : Bool × xS, chn c c (nx c (pr0 S)) r → fr3 r.2 S := fun r hr => (fr3.chn hr).tr (fr3.nx.tr fr3.pr0)
  refine xs_aload_1 eL_law_2247 ?_
  refine xbi_V00 (mi' := mX7_read) (y := yX7_read) eL_law_2248 (xw_5 (xtb_in (i := 427) (by decide +kernel) (by decide +kernel)) wy_X7_read) rfl ⟨wd_X7_read, by decide, by decide⟩ (by decide) (fun _ => rfl) rfl (Nat.le_of_ble_eq_true rfl) rfl (F_read (T := T) (by omega) t2 t3 t7 (fun r hr he => ?_) (fun r k9 N9 hr he hv9 => ?_))
  · have fr := fr0 r hr
    have ptr := pt_chn pt0.1 hr
    have k1 : ∀ x y, x ≠ 3 → ¬ sct x y → (up r.2 3 0 1 0) x y = S x y := fun x y a1 a2 => by rw [up_oth (by omega)]; exact fr x y a1 a2
    have e30 : (up r.2 3 0 1 0) 30 0 = S 30 0 := k1 30 0 (by decide) (by unfold sct; omega)
    have e41 : (up r.2 3 0 1 0) 41 0 = S 41 0 := k1 41 0 (by decide) (by unfold sct; omega)
    have e31 : (up r.2 3 0 1 0) 31 0 = S 31 0 := k1 31 0 (by decide) (by unfold sct; omega)
    refine xs_aload_2 eL_law_2251 ?_
    refine xbi_V00 (mi' := mX8_read) (y := yX8_read) eL_law_2252 (xw_5 (xtb_in (i := 1526) (by decide +kernel) (by decide +kernel)) wy_X8_read) rfl ⟨wd_X8_read, by decide, by decide⟩ (by decide) (fun _ => rfl) rfl (Nat.le_of_ble_eq_true rfl) rfl (G_read (C := S) (T := T) (r := r) (by omega) ⟨by rw [e30]; exact t1, t2, t3, by rw [e41]; exact t4⟩ t7 hr (fun z => absurd z (by rw [he]; decide)) (fun _ S2 g1 g2 g3 g4 g5 => ?_))
    refine xa_icmp_same (tgt := 2358) eL_law_2255 (by decide) ?_
    have k2 : ∀ x y, (x < 30 ∨ x = 33 ∨ x = 34 ∨ 41 ≤ x) → x ≠ 3 → ¬ sct x y → S2 x y = S x y := fun x y a1 a2 a3 => (g2.1 x y a1).trans (k1 x y a2 a3)
    have h3 : S2 3 0 = (up r.2 3 0 1 0) 3 0 := g2.1 3 0 (by omega)
    have e0 : ∀ x y, (x = 1 ∧ y = 0) ∨ (x = 2 ∧ y = 0) ∨ (x = 4 ∧ 8 * 0 ≤ y ∧ y < 8 * 0 + 8) ∨ (x = 5 ∧ y = 0) ∨ (x = 10 ∧ 32 * 0 ≤ y ∧ y < 32 * 0 + 32) ∨ (x = 25 ∧ y = 0) → S2 x y = S x y := fun x y a => k2 x y (by omega) (by omega) (by unfold sct; omega)
    refine X_room (hk nn N 0 _ _ _ _ _ (INV.read (h.mono (by omega)) ((h.1.mono (by omega)).cls e0) (h.2.1.of (e0 2 0 (by omega)) (fun j hj => e0 10 _ (by have := h.1.2.1; omega))) ((h.2.2.1.cls h.1.2.2.1 h.1.2.1 e0).arr h.1.2.1 (fun f hf => by rw [g1 f hf, e31])) (fun x y a => k2 x y (by omega) (by omega) (by unfold sct; omega)) ⟨⟨g3, ?_, Nat.zero_le _, fun j hj => absurd hj (Nat.not_lt_zero j)⟩, ?_, ?_, ?_⟩)) ⟨by omega, by omega⟩
    · rw [h3, up_same]; rfl
    · rw [g4, h3, up_f (by decide)]
    · rw [g5, h3, up_f (by decide)]
    · rw [h3, up_f (by decide)]; exact ptr.2.2.2.2.1
  · have fr := fr0 r hr
    have n9 : N9 ≤ 20 ∧ k9 ≤ 8 := ⟨hv9.2.2.1, hv9.2.2.2.1⟩
    have vs4 : VS 4 k9 N9 T (up r.2 3 0 1 0) := VS_of hv9.2 (fun a ha => by funext y f; rw [up_k (by omega)])
    have fx := cpyS_fr (u := 4) (s := 0) (n := k9) (N := N9) (S := up r.2 3 0 1 0) (by omega) (by omega)
    have k1 : ∀ x y, x ≠ 3 → ¬ sct x y → ¬ (x = 1 ∧ y = 0) → ¬ (x = 2 ∧ y = 0) → ¬ (x = 4 ∧ y < 8) → ¬ (x = 5 ∧ y = 0) → ¬ (x = 10 ∧ y < 32) → ¬ (x = 25 ∧ y = 0) → (cpyS 4 0 k9 N9 (up r.2 3 0 1 0)) x y = S x y := fun x y a1 a2 a3 a4 a5 a6 a7 a8 => (fx x y a3 a4 (by omega) a6 (by omega) a8).trans ((up_oth (by omega)).trans (fr x y a1 a2))
    have e30 : (cpyS 4 0 k9 N9 (up r.2 3 0 1 0)) 30 0 = S 30 0 := k1 30 0 (by decide) (by unfold sct; omega) (by omega) (by omega) (by omega) (by omega) (by omega) (by omega)
    have e41 : (cpyS 4 0 k9 N9 (up r.2 3 0 1 0)) 41 0 = S 41 0 := k1 41 0 (by decide) (by unfold sct; omega) (by omega) (by omega) (by omega) (by omega) (by omega) (by omega)
    have e3 : (cpyS 4 0 k9 N9 (up r.2 3 0 1 0)) 3 0 = up r.2 3 0 1 0 3 0 := fx 3 0 (by omega) (by omega) (by omega) (by omega) (by omega) (by omega)
    obtain ⟨k8, N8, v8, F8⟩ := chn_F hT.1 pt0 Fut.nil hr he
    have eN : N8 = N9 := by have a1 := v8.2.1.1; have a2 := hv9.2.1.1; omega
    subst eN
    have F4 : Fut 4 N8 (up r.2 3 0 1 0) := F8.upo (by decide)
    refine xs_aload_2 eL_law_2251 ?_
    refine xbi_V00 (mi' := mX8_read) (y := yX8_read) eL_law_2252 (xw_5 (xtb_in (i := 1526) (by decide +kernel) (by decide +kernel)) wy_X8_read) rfl ⟨wd_X8_read, by decide, by decide⟩ (by decide) (fun _ => rfl) rfl (Nat.le_of_ble_eq_true rfl) rfl (G_read (C := S) (T := T) (r := r) (by omega) ⟨by rw [e30]; exact t1, t2, t3, by rw [e41]; exact t4⟩ t7 hr (fun _ S2 k7 N7 v7 r7 g2 g3 g4 g5 => ?_) (fun z => absurd he (by rw [z]; decide)))
    have eN7 : N7 = N8 := by have a1 := v7.2.1.1; have a2 := hv9.2.1.1; omega
    have ek7 : k7 = k9 := by have a1 := v7.2.g.1; have a2 := hv9.2.g.1; omega
    subst eN7
    subst ek7
    refine xa_icmp_same (tgt := 2358) eL_law_2255 (by decide) ?_
    have e0 : ∀ x y, (x = 1 ∧ y = 0) ∨ (x = 2 ∧ y = 0) ∨ (x = 4 ∧ 8 * 0 ≤ y ∧ y < 8 * 0 + 8) ∨ (x = 5 ∧ y = 0) ∨ (x = 10 ∧ 32 * 0 ≤ y ∧ y < 32 * 0 + 32) ∨ (x = 25 ∧ y = 0) → S2 x y = (cpyS 4 0 k7 N7 (up r.2 3 0 1 0)) x y := fun x y a => g2.1 x y (by omega)
    have h3 : S2 3 0 = up r.2 3 0 1 0 3 0 := (g2.1 3 0 (by omega)).trans e3
    have r4 : Rel 4 k7 N7 (up r.2 3 0 1 0) (S2 31 0) := r7.cls n9.2 n9.1 (fun x y a => up_oth (by omega))
    refine X_room (hk k7 N7 0 _ _ _ _ _ (INV.read (h.mono (by omega)) (((VS.cpy (by decide) vs4).mono (by omega)).cls e0) ((Fut.cpy (by decide) F4).of (e0 2 0 (by omega)) (fun j hj => e0 10 _ (by omega))) ((Rel.cpys (by decide) r4).cls n9.2 n9.1 e0) (fun x y a => (g2.1 x y (by omega)).trans (k1 x y (by omega) (by unfold sct; omega) (by omega) (by omega) (by omega) (by omega) (by omega) (by omega))) ⟨⟨g3, ?_, Nat.zero_le _, fun j hj => absurd hj (Nat.not_lt_zero j)⟩, ?_, ?_, ?_⟩)) ⟨by omega, by omega⟩
    · rw [h3, up_same]; rfl
    · rw [g4, h3, up_f (by decide)]
    · rw [g5, h3, up_f (by decide)]
    · rw [h3, up_f (by decide)]; exact (pt_chn pt0.1 hr).2.2.2.2.1
