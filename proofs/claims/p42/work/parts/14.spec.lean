/-! words for what methods do to the store -/
def b2i (P : Prop) [Decidable P] : Int := if P then 1 else 0
theorem b2i_1 {P : Prop} [Decidable P] {A : Int → Prop} (h : P) (hq : A (b2i P)) : A 1 := by unfold b2i at hq; rw [if_pos h] at hq; exact hq
theorem b2i_0 {P : Prop} [Decidable P] {A : Int → Prop} (h : ¬ P) (hq : A (b2i P)) : A 0 := by unfold b2i at hq; rw [if_neg h] at hq; exact hq
theorem b2i_01 (P : Prop) [Decidable P] : b2i P = 0 ∨ b2i P = 1 := by unfold b2i; split <;> simp
theorem b2i_r (P : Prop) [Decidable P] : xr (b2i P) := by unfold b2i; split <;> decide
theorem b2i_eq0 {P : Prop} [Decidable P] : b2i P = 0 ↔ ¬ P := by unfold b2i; split <;> simp_all
theorem b2i_ne0 {P : Prop} [Decidable P] : b2i P ≠ 0 ↔ P := by unfold b2i; split <;> simp_all
theorem b2i_congr {P Q : Prop} [Decidable P] [Decidable Q] (h : P ↔ Q) : b2i P = b2i Q := by unfold b2i; by_cases q : P; rw [if_pos q, if_pos (h.mp q)]; rw [if_neg q, if_neg (fun z => q (h.mpr z))]
section XB2
variable {w : xW} {mi : xM} {TG : xT} {k n pc pc' : Nat} {L st : List xV} {S : xS}
theorem xa_ifb_eq {P : Prop} [Decidable P] {off : Int} {tgt : Nat} (h : xd mi.2.1 pc (.ifCond .eq off) 3 pc') (ht : (pc : Int) + off = (tgt : Int)) (kt : ¬ P → X w mi TG k n tgt L st S) (kf : P → X w mi TG k n pc' L st S) : X w mi TG k n pc L (xi (b2i P) :: st) S :=
  xa_if_eq h ht (b2i_r P) (fun c => kt (b2i_eq0.mp c)) (fun c => kf (b2i_ne0.mp c))
theorem xa_ifb_ne {P : Prop} [Decidable P] {off : Int} {tgt : Nat} (h : xd mi.2.1 pc (.ifCond .ne off) 3 pc') (ht : (pc : Int) + off = (tgt : Int)) (kt : P → X w mi TG k n tgt L st S) (kf : ¬ P → X w mi TG k n pc' L st S) : X w mi TG k n pc L (xi (b2i P) :: st) S :=
  xa_if_ne h ht (b2i_r P) (fun c => kt (b2i_ne0.mp c)) (fun c => kf (b2i_eq0.mp c))
end XB2
theorem up_app (S : xS) (k j f : Nat) (v : Int) (k' j' f' : Nat) : up S k j f v k' j' f' = if k' = k ∧ j' = j ∧ f' = f then v else S k' j' f' := rfl
theorem up_self (S : xS) (k j f : Nat) : up S k j f (S k j f) = S := by
  funext k' j' f'
  rw [up_app]
  by_cases h : k' = k ∧ j' = j ∧ f' = f
  · rw [if_pos h, h.1, h.2.1, h.2.2]
  · rw [if_neg h]
theorem up_same (S : xS) (k j f : Nat) (v : Int) : up S k j f v k j f = v := by rw [up_app, if_pos ⟨rfl, rfl, rfl⟩]
theorem up_f {S : xS} {k j f : Nat} {v : Int} {k' j' f' : Nat} (h : f' ≠ f) : up S k j f v k' j' f' = S k' j' f' := by rw [up_app, if_neg (fun z => h z.2.2)]
theorem up_k {S : xS} {k j f : Nat} {v : Int} {k' j' f' : Nat} (h : k' ≠ k) : up S k j f v k' j' f' = S k' j' f' := by rw [up_app, if_neg (fun z => h z.1)]
/-- all but one object stay -/
def xoth (k j : Nat) (S' S : xS) : Prop := ∀ x y, ¬ (x = k ∧ y = j) → S' x y = S x y
/-- one object's row becomes G -/
def xrow (k j N : Nat) (G : Nat → Int) (S' S : xS) : Prop := (∀ f, f < N → S' k j f = G f) ∧ xoth k j S' S
def xarr (t e a b : Int) : Int := if e ≠ 0 ∧ t.tmod e = 0 then xmin 9999 (b + a) else b
theorem xmin_le (a b : Int) : xmin a b ≤ a ∧ xmin a b ≤ b := by unfold xmin; split <;> omega
theorem xmin_or (a b : Int) : xmin a b = a ∨ xmin a b = b := by unfold xmin; split <;> simp
theorem xmax_or (a b : Int) : xmax a b = a ∨ xmax a b = b := by unfold xmax; split <;> simp
theorem xmin_r {a b : Int} (ha : xr a) (hb : xr b) : xr (xmin a b) := by rcases xmin_or a b with h | h <;> rw [h] <;> assumption
theorem xmax_r {a b : Int} (ha : xr a) (hb : xr b) : xr (xmax a b) := by rcases xmax_or a b with h | h <;> rw [h] <;> assumption
