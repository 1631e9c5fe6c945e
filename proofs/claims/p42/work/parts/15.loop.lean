/-! loops, and what they do to rows -/
theorem nloop {Q : Nat → Prop} (N : Nat) (h : ∀ i, i ≤ N → (∀ j, i < j → j ≤ N → Q j) → Q i) : ∀ i, i ≤ N → Q i := by
  have key : ∀ d i, i ≤ N → N - i ≤ d → Q i := by
    intro d
    induction d with
    | zero => exact fun i hi hd => h i hi (fun j h1 h2 => absurd h1 (by omega))
    | succ d ih => exact fun i hi hd => h i hi (fun j h1 h2 => ih j h2 (by omega))
  exact fun i hi => key (N - i) i hi (Nat.le_refl _)
/-- the first n rows from b on become G, all else stays -/
def xmp (k b n N : Nat) (G : Nat → Nat → Int) (S' S : xS) : Prop := (∀ j, j < n → ∀ f, f < N → S' k (b + j) f = G j f) ∧ ∀ x y, ¬ (x = k ∧ b ≤ y ∧ y < b + n) → S' x y = S x y
theorem xmp.zero {k b N : Nat} {G : Nat → Nat → Int} {S : xS} : xmp k b 0 N G S S := ⟨fun j h => absurd h (by omega), fun _ _ _ => rfl⟩
theorem xmp.oth {k b n N : Nat} {G : Nat → Nat → Int} {S S1 : xS} (h : xmp k b n N G S1 S) {x y : Nat} (hx : x ≠ k ∨ y < b ∨ b + n ≤ y) : S1 x y = S x y := h.2 x y (by omega)
theorem xmp.row {k b n N : Nat} {G : Nat → Nat → Int} {S S1 : xS} (h : xmp k b n N G S1 S) : S1 k (b + n) = S k (b + n) := h.2 _ _ (by omega)
theorem xmp.step {k b n N : Nat} {G : Nat → Nat → Int} {G1 : Nat → Int} {S S1 S2 : xS} (h : xmp k b n N G S1 S) (hr : xrow k (b + n) N G1 S2 S1) (hG : ∀ f, f < N → G1 f = G n f) : xmp k b (n + 1) N G S2 S := by
  refine ⟨fun j hj f hf => ?_, fun x y hxy => ?_⟩
  · by_cases e : j = n
    · subst e; rw [hr.1 f hf]; exact hG f hf
    · rw [hr.2 k (b + j) (by omega)]; exact h.1 j (by omega) f hf
  · rw [hr.2 x y (by omega)]; exact h.2 x y (by omega)
theorem xmp.skip {k b n N : Nat} {G : Nat → Nat → Int} {S S1 : xS} (h : xmp k b n N G S1 S) (hG : ∀ f, f < N → S k (b + n) f = G n f) : xmp k b (n + 1) N G S1 S := by
  refine ⟨fun j hj f hf => ?_, fun x y hxy => h.2 x y (by omega)⟩
  by_cases e : j = n
  · subst e; rw [h.row]; exact hG f hf
  · exact h.1 j (by omega) f hf
/-- the best of those that are open: the first one that none is before -/
def bsg (op : Nat → Prop) (lt : Nat → Nat → Prop) : Nat → Option Nat → Prop
  | 0, r => r = none
  | i + 1, r => ∃ q, bsg op lt i q ∧ ((¬ op i ∧ r = q) ∨ (op i ∧ q = none ∧ r = some i) ∨ (op i ∧ ∃ b, q = some b ∧ ((lt i b ∧ r = some i) ∨ (¬ lt i b ∧ r = q))))
theorem bsg.fn {op : Nat → Prop} {lt : Nat → Nat → Prop} : ∀ {i : Nat} {r q : Option Nat}, bsg op lt i r → bsg op lt i q → r = q
  | 0, _, _, h1, h2 => h1.trans h2.symm
  | i + 1, r, q, ⟨a, ha, h1⟩, ⟨b, hb, h2⟩ => by
    have e := bsg.fn ha hb
    subst e
    rcases h1 with ⟨p1, rfl⟩ | ⟨p1, p2, rfl⟩ | ⟨p1, c, p2, ⟨p3, rfl⟩ | ⟨p3, rfl⟩⟩ <;> rcases h2 with ⟨q1, rfl⟩ | ⟨q1, q2, rfl⟩ | ⟨q1, d, q2, ⟨q3, rfl⟩ | ⟨q3, rfl⟩⟩ <;> first | rfl | exact absurd q1 p1 | exact absurd p1 q1 | (rw [p2] at q2; cases q2; done) | (rw [p2] at q2; cases q2; first | rfl | exact absurd q3 p3 | exact absurd p3 q3)
theorem bsg.lt {op : Nat → Prop} {lt : Nat → Nat → Prop} : ∀ {i b : Nat}, bsg op lt i (some b) → b < i ∧ op b
  | 0, _, h => nomatch h
  | i + 1, b, ⟨q, hq, h⟩ => by
    rcases h with ⟨p1, e⟩ | ⟨p1, p2, e⟩ | ⟨p1, c, p2, ⟨p3, e⟩ | ⟨p3, e⟩⟩
    · subst e; have := bsg.lt hq; exact ⟨by omega, this.2⟩
    · cases e; exact ⟨by omega, p1⟩
    · cases e; exact ⟨by omega, p1⟩
    · subst e; have := bsg.lt hq; exact ⟨by omega, this.2⟩
theorem bsg.congr {op op2 : Nat → Prop} {lt lt2 : Nat → Nat → Prop} : ∀ {i : Nat} {r : Option Nat}, (∀ j, j < i → (op j ↔ op2 j)) → (∀ j b, j < i → b < j → op j → op b → (lt j b ↔ lt2 j b)) → bsg op lt i r → bsg op2 lt2 i r
  | 0, _, _, _, h => h
  | i + 1, r, h1, h2, ⟨q, hq, h⟩ => by
    refine ⟨q, bsg.congr (fun j hj => h1 j (by omega)) (fun j b hj => h2 j b (by omega)) hq, ?_⟩
    rcases h with ⟨p1, e⟩ | ⟨p1, p2, e⟩ | ⟨p1, c, p2, ⟨p3, e⟩ | ⟨p3, e⟩⟩
    · exact Or.inl ⟨fun z => p1 ((h1 i (by omega)).mpr z), e⟩
    · exact Or.inr (Or.inl ⟨(h1 i (by omega)).mp p1, p2, e⟩)
    · have hb : c < i ∧ op c := by rw [p2] at hq; exact hq.lt
      exact Or.inr (Or.inr ⟨(h1 i (by omega)).mp p1, c, p2, Or.inl ⟨(h2 i c (by omega) hb.1 p1 hb.2).mp p3, e⟩⟩)
    · have hb : c < i ∧ op c := by rw [p2] at hq; exact hq.lt
      exact Or.inr (Or.inr ⟨(h1 i (by omega)).mp p1, c, p2, Or.inr ⟨fun z => p3 ((h2 i c (by omega) hb.1 p1 hb.2).mpr z), e⟩⟩)
/-- sums -/
def sm (g : Nat → Int) : Nat → Int
  | 0 => 0
  | i + 1 => sm g i + g i
theorem sm_s (g : Nat → Int) (i : Nat) : sm g (i + 1) = sm g i + g i := rfl
theorem sm_congr {g h : Nat → Int} : ∀ {n : Nat}, (∀ j, j < n → g j = h j) → sm g n = sm h n
  | 0, _ => rfl
  | n + 1, e => by rw [sm_s, sm_s, sm_congr (fun j hj => e j (by omega)), e n (by omega)]
theorem sm_range {g : Nat → Int} {lo hi : Int} : ∀ {n : Nat}, (∀ j, j < n → lo ≤ g j ∧ g j ≤ hi) → lo * n ≤ sm g n ∧ sm g n ≤ hi * n
  | 0, _ => by simp [sm]
  | n + 1, e => by
    have h1 := sm_range (n := n) (fun j hj => e j (by omega))
    have h2 := e n (by omega)
    rw [sm_s]
    have e1 : lo * ((n + 1 : Nat) : Int) = lo * (n : Int) + lo := by rw [Int.natCast_succ, Int.mul_add, Int.mul_one]
    have e2 : hi * ((n + 1 : Nat) : Int) = hi * (n : Int) + hi := by rw [Int.natCast_succ, Int.mul_add, Int.mul_one]
    omega
/-- what a caller of a method that may throw owes -/
def xrel (F : Nat → Int) : Nat → Int := fun f => if f = 5 then F 5 + F 2 else if f = 6 then F 3 else if f = 7 then F 5 + F 4 else if f = 15 then F 15 + 1 else if f = 8 then (if 0 < F 11 then F 10 else F 1) else if f = 10 then (if 0 < F 11 then (if 0 < F 11 - 1 then F 10 else -1) else F 10) else if f = 11 then (if 0 < F 11 then F 11 - 1 else F 11) else F f
def xmis (t : Int) (F : Nat → Int) : Nat → Int := fun f => if 0 < F 6 ∧ F 7 ≤ t then (if f = 6 then 0 else if f = 16 then F 16 + 1 else F f) else F f
def xfin (F : Nat → Int) : Nat → Int := fun f => if f = 0 then 1 else if f = 5 then -1 else if f = 6 then 0 else if f = 7 then -1 else if f = 9 then -1 else if f = 10 then -1 else if f = 11 then 0 else F f
def xbeg (o p b d t : Int) : Nat → Int := fun f => if f = 0 then 0 else if f = 1 then o else if f = 2 then p else if f = 3 then b else if f = 4 then d else if f = 5 then t else if f = 6 then 0 else if f = 7 then -1 else if f = 8 then -1 else if f = 9 then -1 else if f = 10 then -1 else 0
def xgr1 (a : Int) (F : Nat → Int) : Nat → Int := fun f => if f = 3 then a else if f = 6 then xmin (F 6) a else F f
def xgr2 (a : Int) (F R : Nat → Int) : Nat → Int := fun f => if f = 5 then F 5 else if f = 6 then xmax 0 (F 6 - a) else if f = 7 then F 7 else if f = 8 then F 8 else R f
def xtic (F : Nat → Int) : Int := if F 2 < 1 then 0 else F 3 * (Int.tdiv 120 (F 2))
def xdem (t : Int) (F : Nat → Int) : Int := if t < F 4 ∨ F 2 < 1 then 0 else F 3 * (Int.tdiv (t - F 4) (F 2) + 1)
def xshr (F : Nat → Int) : UInt64 := if F 2 < 1 then 0 else FP.ddiv (FP.i2d (Int32.ofInt (F 3))) (FP.i2d (Int32.ofInt (F 2)))
def xfg1 (t : Int) (F : Nat → Int) (a : Nat) : Int := if (a = 6 ∨ a = 7 ∨ a = 8) ∧ ¬ t < F 7 then -1 else F a
