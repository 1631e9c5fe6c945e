/-! what holds besides; it holds on over a tick -/
def RQ (t : Int) (F : Nat → Int) : Prop := (F 0 = 1 → F 5 = -1 ∧ F 7 = -1 ∧ F 9 = -1 ∧ F 10 = -1 ∧ F 11 = 0) ∧ F 6 ≤ F 3 ∧ F 5 ≤ t + F 2 ∧ (0 ≤ F 7 → 0 ≤ F 8) ∧ F 16 = 0
def EX (N : Nat) (C : xS) : Prop := (∀ j, j < N → RQ (C 2 0 2) (C 10 j)) ∧ C 1 0 13 = 0 ∧ smQ N C 12 = smP C 5 ∧ smQ N C 13 = smP C 6 ∧ smQ N C 14 = C 1 0 10 ∧ smP C 7 = C 1 0 11 ∧ smP C 8 = smP C 9 ∧ mon C ≤ 20000
theorem VS.P {N : Nat} {T : Int} {C : xS} (h : VS 0 4 N T C) {p : Nat} (hp : p < 4) : PQ T (C 4 p) := by have := h.2.2.2.2.1 p hp; rw [e08] at this; exact this
theorem VS.O {N : Nat} {T : Int} {C : xS} (h : VS 0 4 N T C) {j : Nat} (hj : j < N) : OQ 4 (C 2 0 2) T (C 10 j) := by have := h.2.2.2.2.2.1 j hj; rw [e32] at this; exact this
theorem VS.Q {N : Nat} {T : Int} {C : xS} (h : VS 0 4 N T C) {j : Nat} (hj : j < N) : TQ (C 2 0 2) T (C 10 j) := by have := h.1.2.2.2 j hj; rw [e32] at this; exact this
theorem VS.le0 {N : Nat} {T : Int} {C : xS} (h : VS 0 4 N T C) {p : Nat} (hp : p < 4) : 0 ≤ C 4 p 0 ∧ C 4 p 0 ≤ mon C := by
  have h1 := sm_ge (g := fun p => C 4 p 0) (n := 4) (h := p) (fun q hq => (h.P hq).1.1) hp
  have h2 := h.2.2.2.1.2.2.2.1.1
  have h3 := (h.P hp).1.1
  unfold mon smP
  refine ⟨h3, ?_⟩
  have h4 := h1.2
  omega
theorem gro_id {N : Nat} {A : xS} (h : misT 0 N A = 0) : groT 0 N A = up A 2 0 2 (A 2 0 2 + 1) := by
  have hz := (sm_zero (g := fun j => b2i (0 < A 10 (32 * 0 + j) 6 ∧ A 10 (32 * 0 + j) 7 ≤ A 2 0 2 + 1)) (n := N) (fun j _ => by rcases b2i_01 (0 < A 10 (32 * 0 + j) 6 ∧ A 10 (32 * 0 + j) 7 ≤ A 2 0 2 + 1) with e | e <;> rw [e] <;> decide)).mp h
  funext k j f
  unfold groT
  rw [up_app]
  by_cases c : k = 2 ∧ j = 0 ∧ f = 2
  · rw [if_pos c, if_pos c]
  · rw [if_neg c, if_neg c]
    by_cases c2 : k = 10 ∧ 32 * 0 ≤ j ∧ j < 32 * 0 + N
    · have h9 := b2i_eq0.mp (hz j (by omega))
      rw [e32] at h9
      rw [if_pos c2, c2.1]
      unfold xmis
      rw [if_neg h9]
    · rw [if_neg c2]
theorem arr_tlq {N : Nat} {C : xS} : tlq 0 0 N (arrS 0 4 C) C := tlq.of (by unfold arrS; rw [if_neg (by omega)]) (fun j _ => by funext f; unfold arrS; rw [if_neg (by omega)])
theorem act_mis {N : Nat} {C : xS} (h : Fut 0 N C) : misT 0 N (actS 0 4 N (relT 0 N (arrS 0 4 C))) = 0 := by
  have h1 : misT 0 N (actS 0 4 N (relT 0 N (arrS 0 4 C))) = misT 0 N (choT 0 N (relT 0 N C)) := (tlq.act.tr (arr_tlq.rel.cho)).mis
  have h2 := h.ok 1
  rw [okT, Bool.and_eq_true, decide_eq_true_iff] at h2
  rw [h1]; exact h2.1
/-- the store between the releases and the choice -/
def bef (N : Nat) (C : xS) : xS := relT 0 N (arrS 0 4 C)
theorem bef_10 {N j : Nat} {C : xS} (hj : j < N) : bef N C 10 j = rrl (C 2 0 2) (C 10 j) := by
  have h := rwT_rel (t := 0) (N := N) (S := arrS 0 4 C) hj
  unfold rwT at h
  rw [e32] at h
  have e10 : arrS 0 4 C 10 j = C 10 j := by funext f; unfold arrS; rw [if_neg (by omega)]
  have e2 : arrS 0 4 C 2 0 2 = C 2 0 2 := by unfold arrS; rw [if_neg (by omega)]
  rw [e10, e2] at h
  exact h
theorem bef_o {N k j : Nat} {C : xS} (h4 : k ≠ 4) (h10 : k ≠ 10) : bef N C k j = C k j := by
  funext f
  unfold bef relT
  rw [if_neg (by omega)]
  unfold arrS
  rw [if_neg (by omega)]
theorem bef_4 {N p f : Nat} {C : xS} (hp : p < 4) : bef N C 4 p f = if f = 1 then xarr (C 2 0 2) (C 4 p 3) (C 4 p 4) (C 4 p 1) else C 4 p f := by
  unfold bef relT
  rw [if_neg (by omega)]
  unfold arrS
  by_cases c : f = 1
  · rw [if_pos ⟨rfl, by omega, by omega, c⟩, if_pos c]
  · rw [if_neg (by omega), if_neg c]
theorem bef_P {N g : Nat} {C : xS} (hg : g ≠ 1) : smP (bef N C) g = smP C g := sm_congr (fun p hp => by show bef N C 4 p g = C 4 p g; rw [bef_4 hp, if_neg hg])
theorem rrl_o {c : Int} {F : Nat → Int} {f : Nat} (h : f = 12 ∨ f = 13 ∨ f = 14 ∨ f = 16) : rrl c F f = F f := by
  unfold rrl
  split
  · unfold xrel
    rcases h with rfl | rfl | rfl | rfl <;> rfl
  · rfl
theorem bef_Q {N g : Nat} {C : xS} (hg : g = 12 ∨ g = 13 ∨ g = 14) : smQ N (bef N C) g = smQ N C g := sm_congr (fun j hj => by show bef N C 10 j g = C 10 j g; rw [bef_10 hj, rrl_o (by omega)])
theorem bef_V {N : Nat} {T : Int} {C : xS} (h : VS 0 4 N T C) : VS 0 4 N (T + 1) (bef N C) := (h.arr).rel
theorem bef_mon {N : Nat} {C : xS} : mon (bef N C) = mon C := by unfold mon; rw [bef_P (by decide), bef_o (by decide) (by decide)]
/-- what a tick does -/
theorem act_TF {N : Nat} {T : Int} {C : xS} (h : VS 0 4 N T C) (hm : mon C ≤ 20000) : ∃ dU dS dW dF dI, TF N (bef N C) (actS 0 4 N (bef N C)) dU dS dW dF dI := by
  have hB := bef_V h
  have hmB : mon (bef N C) ≤ 20000 := by rw [bef_mon]; exact hm
  generalize bef N C = B at hB hmB ⊢
  unfold actS
  cases hb : bstT 0 B N with
  | none =>
    dsimp only
    unfold freS
    rcases nxtS_r (s := 0) (n := 4) (S := B) (by decide) 4 (B 1 0 7) hB.2.2.2.1.2.2.2.2.1.1 with e | ⟨e1, e2, e3⟩
    · rw [if_pos e]; exact ⟨0, 0, 0, 0, 1, TF.idle⟩
    · rw [if_neg (by omega)]; exact ⟨0, 0, 0, 1, 0, TF.free (by omega)⟩
  | some b =>
    dsimp only
    have hl := bstT_lt hb
    rw [e32] at hl
    obtain ⟨hbN, hb6⟩ := hl
    have hO := hB.O hbN
    have h8 := hO.2.1 hb6
    have ed : decT 0 (some b) B = up B 10 b 6 (B 10 b 6 - 1) := by unfold decT; dsimp only; rw [e32]
    rw [ed, e32]
    unfold useS
    have e8 : up B 10 b 6 (B 10 b 6 - 1) 10 b 8 = B 10 b 8 := up_f (by decide)
    have e4 : ∀ y f, up B 10 b 6 (B 10 b 6 - 1) 4 y f = B 4 y f := fun y f => up_k (by decide)
    rw [e8, e08, e4]
    have hh : (B 10 b 8).toNat < 4 := by omega
    by_cases c : 0 < B 4 (B 10 b 8).toNat 1
    · rw [if_pos c]; exact ⟨1, 0, 0, 0, 0, TF.used hh hbN⟩
    · rw [if_neg c]
      cases hq : hbdS 0 (up B 10 b 6 (B 10 b 6 - 1)) 4 with
      | none => exact ⟨0, 0, 1, 0, 0, TF.wasted hh hbN⟩
      | some q =>
        dsimp only
        have hl := hbdS_lt hq
        rw [e08, e4, e4, e4] at hl
        rw [e08]
        have hne : q ≠ (B 10 b 8).toNat := fun z => c (z ▸ hl.2.1)
        have m1 := hB.le0 hh
        have m2 := (hB.P (p := q) (by omega)).2.2.1
        exact ⟨0, 1, 0, 0, 0, TF.sold hh (by omega) hne hbN (by omega)⟩
theorem tck_eq {N : Nat} {C : xS} (h : Fut 0 N C) : tckS 0 4 N C = up (up (actS 0 4 N (bef N C)) 2 0 2 (actS 0 4 N (bef N C) 2 0 2 + 1)) 1 0 13 (actS 0 4 N (bef N C) 1 0 13) := by
  have hm := act_mis h
  unfold tckS endS
  show up (groT 0 N (actS 0 4 N (bef N C))) 1 0 13 (actS 0 4 N (bef N C) 1 0 13 + misT 0 N (actS 0 4 N (bef N C))) = _
  have hm2 : misT 0 N (actS 0 4 N (bef N C)) = 0 := hm
  rw [hm2, gro_id hm2, Int.add_zero]
/-- what is seen of a tick -/
def TFD (N : Nat) (C D : xS) (dU dS dW dF dI : Int) : Prop :=
  (0 ≤ dU ∧ 0 ≤ dS ∧ 0 ≤ dW ∧ 0 ≤ dF ∧ 0 ≤ dI ∧ dU + dS + dW + dF + dI = 1) ∧
  (D 1 0 8 = C 1 0 8 + dU ∧ D 1 0 9 = C 1 0 9 + dS ∧ D 1 0 10 = C 1 0 10 + dW ∧ D 1 0 11 = C 1 0 11 + dF ∧ D 1 0 12 = C 1 0 12 + dI ∧ D 1 0 13 = C 1 0 13) ∧
  (smP D 1 = smP (bef N C) 1 - 1 + dW + dI ∧ smP D 5 = smP C 5 + dU ∧ smP D 6 = smP C 6 + dS ∧ smP D 7 = smP C 7 + dF ∧ smP D 8 - smP D 9 = smP C 8 - smP C 9 ∧ mon D = mon C) ∧
  (smQ N D 12 = smQ N C 12 + dU ∧ smQ N D 13 = smQ N C 13 + dS ∧ smQ N D 14 = smQ N C 14 + dW) ∧
  (∀ p, p < 4 → (D 4 p 1 = bef N C 4 p 1 ∨ D 4 p 1 = bef N C 4 p 1 - 1) ∧ D 4 p 3 = C 4 p 3 ∧ D 4 p 4 = C 4 p 4) ∧
  (∀ j, j < N → D 10 j 6 ≤ rrl (C 2 0 2) (C 10 j) 6 ∧ ∀ f, f ≠ 6 → f ≠ 12 → f ≠ 13 → f ≠ 14 → D 10 j f = rrl (C 2 0 2) (C 10 j) f) ∧ D 2 0 2 = C 2 0 2 + 1 ∧ D 2 0 1 = C 2 0 1
theorem tck_TFD {N : Nat} {T : Int} {C : xS} (h : VS 0 4 N T C) (g : Fut 0 N C) (hm : mon C ≤ 20000) : ∃ dU dS dW dF dI, TFD N C (tckS 0 4 N C) dU dS dW dF dI := by
  obtain ⟨dU, dS, dW, dF, dI, h1, h2, h3, h4, h5, h6, h7⟩ := act_TF h hm
  refine ⟨dU, dS, dW, dF, dI, ?_⟩
  rw [tck_eq g]
  generalize actS 0 4 N (bef N C) = A at h2 h3 h4 h5 h6 h7
  have eP : ∀ g, smP (up (up A 2 0 2 (A 2 0 2 + 1)) 1 0 13 (A 1 0 13)) g = smP A g := fun g => by rw [smP_o (by decide), smP_o (by decide)]
  have eQ : ∀ g, smQ N (up (up A 2 0 2 (A 2 0 2 + 1)) 1 0 13 (A 1 0 13)) g = smQ N A g := fun g => by rw [smQ_o (by decide), smQ_o (by decide)]
  have e1 : ∀ f, up (up A 2 0 2 (A 2 0 2 + 1)) 1 0 13 (A 1 0 13) 1 0 f = A 1 0 f := fun f => by
    by_cases c : f = 13
    · subst c; rw [up_same]
    · rw [up_f c, up_k (by decide)]
  have eo : ∀ k j f, k ≠ 1 → k ≠ 2 → up (up A 2 0 2 (A 2 0 2 + 1)) 1 0 13 (A 1 0 13) k j f = A k j f := fun k j f c1 c2 => by rw [up_k c1, up_k c2]
  have e22 : up (up A 2 0 2 (A 2 0 2 + 1)) 1 0 13 (A 1 0 13) 2 0 2 = A 2 0 2 + 1 := by rw [up_k (by decide), up_same]
  have e21 : up (up A 2 0 2 (A 2 0 2 + 1)) 1 0 13 (A 1 0 13) 2 0 1 = A 2 0 1 := by rw [up_k (by decide), up_f (by decide)]
  have eM : mon (up (up A 2 0 2 (A 2 0 2 + 1)) 1 0 13 (A 1 0 13)) = mon A := by unfold mon; rw [eP, e1]
  refine ⟨h1, ?_, ?_, ?_, fun p hp => ?_, fun j hj => ?_, ?_, ?_⟩
  · simp only [e1]
    rw [bef_o (by decide) (by decide)] at h2
    exact h2
  · rw [eP, eP, eP, eP, eP, eP, eM]
    rw [bef_P (g := 5) (by decide), bef_P (g := 6) (by decide), bef_P (g := 7) (by decide), bef_P (g := 8) (by decide), bef_P (g := 9) (by decide), bef_mon] at h3
    exact h3
  · rw [eQ, eQ, eQ]
    rw [bef_Q (by decide), bef_Q (by decide), bef_Q (by decide)] at h4
    exact h4
  · rw [eo _ _ _ (by decide) (by decide), eo _ _ _ (by decide) (by decide), eo _ _ _ (by decide) (by decide)]
    obtain ⟨q1, q2, q3⟩ := h5 p hp
    rw [bef_4 hp, if_neg (by decide)] at q2 q3
    exact ⟨q1, q2, q3⟩
  · obtain ⟨q1, q2⟩ := h6 j hj
    rw [bef_10 hj] at q1
    refine ⟨by rw [eo _ _ _ (by decide) (by decide)]; exact q1, fun f f6 f12 f13 f14 => ?_⟩
    rw [eo _ _ _ (by decide) (by decide), q2 f f6 f12 f13 f14, bef_10 hj]
  · rw [e22, h7, bef_o (by decide) (by decide)]
  · rw [e21, h7, bef_o (by decide) (by decide)]
theorem RQ.tck {t T : Int} {F G : Nat → Int} (h : RQ t F) (hL : LQ t F) (hO : OQ 4 t T F) (h6 : G 6 ≤ rrl t F 6) (hG : ∀ f, f ≠ 6 → f ≠ 12 → f ≠ 13 → f ≠ 14 → G f = rrl t F f) : RQ (t + 1) G := by
  unfold RQ at h ⊢
  unfold OQ at hO
  unfold LQ at hL
  rw [hG 0 (by decide) (by decide) (by decide) (by decide), hG 2 (by decide) (by decide) (by decide) (by decide), hG 3 (by decide) (by decide) (by decide) (by decide), hG 5 (by decide) (by decide) (by decide) (by decide), hG 7 (by decide) (by decide) (by decide) (by decide), hG 8 (by decide) (by decide) (by decide) (by decide), hG 9 (by decide) (by decide) (by decide) (by decide), hG 10 (by decide) (by decide) (by decide) (by decide), hG 11 (by decide) (by decide) (by decide) (by decide), hG 16 (by decide) (by decide) (by decide) (by decide)]
  by_cases c : F 0 = 0 ∧ F 5 = t
  · have e : rrl t F = xrel F := by unfold rrl; rw [if_pos c]
    rw [e] at h6 ⊢
    have x0 : xrel F 0 = F 0 := rfl
    have x2 : xrel F 2 = F 2 := rfl
    have x3 : xrel F 3 = F 3 := rfl
    have x5 : xrel F 5 = F 5 + F 2 := rfl
    have x6 : xrel F 6 = F 3 := rfl
    have x7 : xrel F 7 = F 5 + F 4 := rfl
    have x8 : xrel F 8 = if 0 < F 11 then F 10 else F 1 := rfl
    have x16 : xrel F 16 = F 16 := rfl
    rw [x0, x2, x3, x5, x7, x8, x16]
    rw [x6] at h6
    refine ⟨fun z => by omega, by omega, by omega, fun _ => ?_, by omega⟩
    split <;> omega
  · have e : rrl t F = F := by unfold rrl; rw [if_neg c]
    rw [e] at h6 ⊢
    obtain ⟨a1, a2, a3, a4, a5⟩ := h
    exact ⟨a1, by omega, by omega, a4, a5⟩
theorem Fut.L {N j : Nat} {C : xS} (h : Fut 0 N C) (hj : j < N) : LQ (C 2 0 2) (C 10 j) := by
  have := h.1 j hj
  unfold rwT at this
  rw [e32] at this
  exact this
theorem EX.tck {N : Nat} {T : Int} {C : xS} (h : EX N C) (hV : VS 0 4 N T C) (g : Fut 0 N C) : EX N (tckS 0 4 N C) := by
  obtain ⟨dU, dS, dW, dF, dI, h1, h2, h3, h4, h5, h6, h7, h8⟩ := tck_TFD hV g h.2.2.2.2.2.2.2
  obtain ⟨a1, a2, a3, a4, a5, a6, a7, a8⟩ := h
  refine ⟨fun j hj => ?_, by omega, by omega, by omega, by omega, by omega, by omega, by omega⟩
  rw [h7]
  exact (a1 j hj).tck (g.L hj) (hV.O hj) (h6 j hj).1 (h6 j hj).2
theorem EX.itr {N : Nat} {T : Int} {C : xS} (h : EX N C) (hV : VS 0 4 N T C) (g : Fut 0 N C) : ∀ i : Nat, EX N (itr (tckS 0 4 N) i C)
  | 0 => h
  | i + 1 => EX.tck (EX.itr h hV g i) (hV.itr i) (g.itr i)
