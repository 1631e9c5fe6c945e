/-! a process in both texts -/
/-- the class's `process` statement but for its semicolon -/
def rdPS (n : Nat) (C : xS) : Bool × xS := bnd (rdPro n C) (fun S1 => if isW 3 S1 then rdArr n S1 else (true, S1))
/-- what the reference's reader leaves, its state and lines aside -/
def FN (S' S : xS) : Prop := (∀ k, k ≠ 30 → k ≠ 31 → (k < 35 ∨ 40 < k) → S' k = S k) ∧ (∀ f, f < 15 → f ≠ 11 → f ≠ 12 → S' 30 0 f = S 30 0 f) ∧ (S' 30 0 20 = 0 → S 30 0 20 = 0 ∧ S' 30 0 21 = S 30 0 21)
theorem FN.rf {S : xS} : FN S S := ⟨fun _ _ _ _ => rfl, fun _ _ _ _ => rfl, fun e => ⟨e, rfl⟩⟩
theorem FN.tr {S1 S2 S3 : xS} (h : FN S3 S2) (g : FN S2 S1) : FN S3 S1 := ⟨fun k a b c => (h.1 k a b c).trans (g.1 k a b c), fun f a b c => (h.2.1 f a b c).trans (g.2.1 f a b c), fun e => ⟨(g.2.2 (h.2.2 e).1).1, (h.2.2 e).2.trans (g.2.2 (h.2.2 e).1).2⟩⟩
theorem FM.fn {S1 S2 : xS} (h : FM S2 S1) : FN S2 S1 := ⟨fun k a _ _ => h.1 k a, fun f a _ _ => h.2.1 f a, h.2.2⟩
theorem FN.m {S : xS} {M : Nat → Int} : FN (stM M S) S := ⟨fun k a b c => funext fun j => stM_o b, fun f a b c => by rw [stM_o (by decide)], fun e => by rw [stM_o (by decide)] at e ⊢; exact ⟨e, rfl⟩⟩
