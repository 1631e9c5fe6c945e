/-! no NaN -/
theorem vf64 {r : UInt64} (h : Jvm.FP.Core.val64 r ≠ .nan) : vf_n64 r := by
  have h1 := (Jvm.FP.Core.ne_nan r).mp h
  unfold vf_n64
  rw [UInt64.le_iff_toNat_le, UInt64.toNat_and]
  rw [show (0x7fffffffffffffff : UInt64).toNat = 2 ^ 63 - 1 from rfl, Nat.and_two_pow_sub_one_eq_mod]
  exact h1
/-- no NaN, and not below zero -/
def psD (x : UInt64) : Prop := (∃ c q, Jvm.FP.Core.val64 x = .fin false c q) ∨ Jvm.FP.Core.val64 x = .inf false
theorem psD.vf {x : UInt64} (h : psD x) : vf_n64 x := by
  apply vf64
  rcases h with ⟨c, q, h⟩ | h <;> rw [h] <;> exact Jvm.FP.Core.Datum.noConfusion
theorem psD_round (c : Nat) (q : Int) : (∃ c' q', Jvm.FP.Core.round Jvm.FP.Core.b64 (.fin false c q) = .fin false c' q') ∨ Jvm.FP.Core.round Jvm.FP.Core.b64 (.fin false c q) = .inf false := Jvm.FP.Core.roundRatio_cases _ _ _ _ _
theorem psD_dadd {a b : UInt64} (ha : psD a) (hb : psD b) : psD (FP.dadd a b) := by
  unfold psD
  rw [Jvm.FP.Core.val64_dadd]
  rcases ha with ⟨c, q, ha⟩ | ha
  · rcases hb with ⟨d, r, hb⟩ | hb
    · rw [ha, hb]
      have hs : Jvm.FP.Core.sumSign false false (Jvm.FP.Core.sumUnits false c q false d r (min q r)) = false := by
        unfold Jvm.FP.Core.sumSign
        split
        · rfl
        · have h0 : 0 ≤ Jvm.FP.Core.sumUnits false c q false d r (min q r) := by
            show 0 ≤ ((Jvm.FP.Core.inUnits c q (min q r) : Nat) : Int) + ((Jvm.FP.Core.inUnits d r (min q r) : Nat) : Int)
            omega
          exact decide_eq_false (by omega)
      show (∃ c' q', Jvm.FP.Core.round _ (.fin (Jvm.FP.Core.sumSign false false _) _ _) = _) ∨ Jvm.FP.Core.round _ (.fin (Jvm.FP.Core.sumSign false false _) _ _) = _
      rw [hs]
      exact psD_round _ _
    · rw [ha, hb]; exact Or.inr rfl
  · rcases hb with ⟨d, r, hb⟩ | hb
    · rw [ha, hb]; exact Or.inr rfl
    · rw [ha, hb]; exact Or.inr rfl
theorem psD_i2d {b : Int} (hb : 0 ≤ b ∧ xr b) : ∃ c q, Jvm.FP.Core.val64 (FP.i2d (Int32.ofInt b)) = .fin false c q := by
  have h1 : Jvm.FP.Core.val64 (FP.i2d (Int32.ofInt b)) = Jvm.FP.Core.round Jvm.FP.Core.b64 (.fin false b.natAbs 0) := by
    rw [Jvm.FP.Core.val64_i2d, xn_ti hb.2]
    unfold Jvm.FP.Core.ofInt
    rw [show decide (b < 0) = false from decide_eq_false (by omega)]
  rcases psD_round b.natAbs 0 with h | h
  · rw [h1]; exact h
  · exact absurd (h1.trans h) ((Jvm.FP.Core.i2d_fin _).ne_inf false)
theorem psD_ddiv {b p : Int} (hb : 0 ≤ b ∧ xr b) (hp : 1 ≤ p ∧ xr p) : psD (FP.ddiv (FP.i2d (Int32.ofInt b)) (FP.i2d (Int32.ofInt p))) := by
  obtain ⟨c, q, h1⟩ := psD_i2d hb
  obtain ⟨d, r, h2⟩ := psD_i2d (b := p) ⟨by omega, hp.2⟩
  have hd : d ≠ 0 := by
    intro z
    have h3 := (Jvm.FP.Core.zero_bits2 (FP.i2d (Int32.ofInt p))).mp ⟨false, r, by rw [h2, z]⟩
    have h4 := (Jvm.FP.Core.i2d_big (v := Int32.ofInt p) (by rw [xn_ti hp.2]; omega)).1
    have h5 : (FP.i2d (Int32.ofInt p)).toNat % 2 ^ 63 = (Jvm.FP.Core.i2d (Int32.ofInt p)).toNat % 2 ^ 63 := rfl
    omega
  unfold psD
  rw [Jvm.FP.Core.val64_ddiv, h1, h2]
  show (∃ c' q', (if d = 0 then _ else Jvm.FP.Core.roundRatio _ (false != false) _ _ _) = _) ∨ (if d = 0 then _ else Jvm.FP.Core.roundRatio _ (false != false) _ _ _) = _
  rw [if_neg hd]
  exact Jvm.FP.Core.roundRatio_cases _ _ _ _ _
theorem psD_0 : psD 0 := by
  refine Or.inl ⟨0, Jvm.FP.Core.b64.qmin, ?_⟩
  decide
theorem psD_dsm {g : Nat → UInt64} {c : Nat → Prop} : ∀ {i : Nat} {D : UInt64}, (∀ j, j < i → c j → psD (g j)) → dsm g c i D → psD D
  | 0, _, _, h => by rw [show _ = _ from h]; exact psD_0
  | i + 1, D, hg, ⟨q, hq, h⟩ => by
    have h9 := psD_dsm (fun j hj => hg j (by omega)) hq
    rcases h with ⟨h1, e⟩ | ⟨h1, e⟩
    · rw [e]; exact psD_dadd h9 (hg i (by omega) h1)
    · rw [e]; exact h9
theorem ps_shr {t T : Int} {F : Nat → Int} (h : TQ t T F) : psD (xshr F) := by
  unfold TQ at h
  unfold xshr
  rw [if_neg (by omega)]
  exact psD_ddiv (by omega) (by omega)
