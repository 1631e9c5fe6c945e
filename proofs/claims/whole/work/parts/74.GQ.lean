/-! numbers in both readers -/
/-- what the reference's reader leaves as it is -/
def FM (S' S : xS) : Prop := (∀ k, k ≠ 30 → S' k = S k) ∧ (∀ f, f < 15 → S' 30 0 f = S 30 0 f) ∧ (S' 30 0 20 = 0 → S 30 0 20 = 0 ∧ S' 30 0 21 = S 30 0 21)
theorem FM.rf {S : xS} : FM S S := ⟨fun _ _ => rfl, fun _ _ => rfl, fun e => ⟨e, rfl⟩⟩
theorem FM.tr {S1 S2 S3 : xS} (h : FM S3 S2) (g : FM S2 S1) : FM S3 S1 := ⟨fun k hk => (h.1 k hk).trans (g.1 k hk), fun f hf => (h.2.1 f hf).trans (g.2.1 f hf), fun e => ⟨(g.2.2 (h.2.2 e).1).1, (h.2.2 e).2.trans (g.2.2 (h.2.2 e).1).2⟩⟩
theorem FM.rq {c : Int} {S : xS} (hc : c ≠ 0) : FM (rqS c S) S := ⟨fun k hk => rq_k hk, fun f hf => rq_f (by omega) (by omega), fun e => absurd e (rq_20 hc)⟩
theorem FM_mt {S : xS} {p s k l v d : Int} : FM (mt S p s k l v d) S := ⟨fun a ha => mt_o ha, fun f hf => by unfold mt; rw [if_neg (by omega), if_neg (by omega), if_neg (by omega), if_neg (by omega), if_neg (by omega), if_neg (by omega)], fun e => ⟨e, rfl⟩⟩
theorem FM.nx {n p : Nat} {S : xS} : FM (nxR n p S) S := by
  unfold nxR
  split
  · exact FM_mt
  · split
    · exact FM_mt
    · split
      · exact FM_mt
      · exact FM_mt
theorem nxR_20 {n p : Nat} {S : xS} : nxR n p S 30 0 20 = S 30 0 20 := by
  unfold nxR
  split
  · rfl
  · split
    · rfl
    · split
      · rfl
      · rfl
theorem TB.bytes {n : Nat} {C S : xS} (h : TB n C S) : ∀ i, i < n → 0 ≤ S 41 0 i ∧ S 41 0 i ≤ 255 := fun i hi => by
  have h9 := h.2.2.2 i hi
  rw [h9.2]
  unfold ub
  split <;> omega
theorem p_X8_parseNumber {w : xW} {S C : xS} {B : String → xS → Prop} {A : Int → xS → Prop} {n : Nat} {lo hi : Int} (hP : PT n C) (h : TR n (nx n C) S) (e : S 30 0 20 = 0) (hlo : xr lo) (hhi : xr hi) (hi7 : hi < 10000000) (q1 : (rdN n lo hi C).1 = true → ∀ S', TR n (nx n (rdN n lo hi C).2) S' → FM S' S → S' 30 0 20 = 0 → A ((rdN n lo hi C).2 3 0 9) S') (q0 : (rdN n lo hi C).1 = false → ∀ v S', FM S' S → S' 30 0 20 = (rdN n lo hi C).2 3 0 4 → S' 30 0 21 = (rdN n lo hi C).2 3 0 5 → ¬ S' 30 0 20 = 0 → A v S') : Ki w mX8_parseNumber yX8_parseNumber 0 0 [xp 30 0, xi lo, xi hi] S A B := by
  have hP1 := hP.nx
  have hP2 := id hP1
  obtain ⟨b1, b2, b3, b4, b5, b6⟩ := hP1
  have h0 := id h
  obtain ⟨t, a1, a2, a3, a4, a5⟩ := h
  have hc := (cod_inj b6).2.2.1
  refine k_X8_parseNumber (n := n) (p := (nx n C 3 0 8).toNat) hlo hhi (by rw [a1]; omega) t.1 t.2.2.1 t.bytes (by omega) (fun _ hk hr => ?_) (fun _ hk v => ?_) (fun _ hk hr v => ?_) (fun z => absurd e z)
  · have hk2 : nx n C 3 0 6 = 2 := hc.mp (by rw [← a3]; exact hk)
    have hv := a4 hk2
    have ev : S 30 0 19 = nx n C 3 0 9 := by unfold VR at hv; omega
    have er : rdN n lo hi C = (true, nx n C) := by unfold rdN; rw [if_pos hk2, if_pos (by omega)]
    rw [er] at q1
    rw [ev]
    exact q1 rfl _ (TR_nx (C := nx n C) ⟨by omega, b4⟩ t) FM.nx (by rw [nxR_20]; exact e)
  · have er : rdN n lo hi C = (false, flS 1 (nx n C)) := by unfold rdN; rw [if_neg (fun z => hk (by rw [a3]; exact hc.mpr z))]
    rw [er] at q0
    exact q0 rfl v _ (FM.rq (by decide)) (by unfold rqS; rw [if_pos e, up_f (by decide), up_same]; rfl) (by unfold rqS; rw [if_pos e, up_same, a2]; rfl) (rq_20 (by decide))
  · have hk2 : nx n C 3 0 6 = 2 := hc.mp (by rw [← a3]; exact hk)
    have hv := a4 hk2
    have er : rdN n lo hi C = (false, flS 2 (nx n C)) := by unfold rdN; rw [if_pos hk2, if_neg (fun z => hr (by unfold VR at hv; omega))]
    rw [er] at q0
    exact q0 rfl v _ (FM.rq (by decide)) (by unfold rqS; rw [if_pos e, up_f (by decide), up_same]; rfl) (by unfold rqS; rw [if_pos e, up_same, a2]; rfl) (rq_20 (by decide))
/-- in error a number's place is passed over -/
theorem e_X8_parseNumber {w : xW} {S : xS} {B : String → xS → Prop} {A : Int → xS → Prop} {n p : Nat} {lo hi : Int} (hlo : xr lo) (hhi : xr hi) (h15 : S 30 0 15 = (p : Int)) (hn : S 30 0 14 = (n : Int)) (h7 : n ≤ 700) (hB : ∀ i, i < n → 0 ≤ S 41 0 i ∧ S 41 0 i ≤ 255) (hp : p ≤ n) (e : ¬ S 30 0 20 = 0) (hq : ∀ v, A v S) : Ki w mX8_parseNumber yX8_parseNumber 0 0 [xp 30 0, xi lo, xi hi] S A B :=
  k_X8_parseNumber hlo hhi h15 hn h7 hB hp (fun z => absurd z e) (fun z => absurd z e) (fun z => absurd z e) (fun _ => hq)
