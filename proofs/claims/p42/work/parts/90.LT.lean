/-! a timeline and the work that is due -/
/-! a timeline's rows, and the recursion -/
def rwT (t : Nat) (S : xS) : Nat → Nat → Int := fun j => S 10 (32 * t + j)
def lb (R : Nat → Nat → Int) (j : Nat) : Nat := if R j 0 = 0 then (R j 3).toNat else 0
def lr (c : Int) (R : Nat → Nat → Int) (j : Nat) : Nat := (R j 5 - c).toNat
def lp (R : Nat → Nat → Int) (j : Nat) : Nat := (R j 2).toNat
def ld (R : Nat → Nat → Int) (j : Nat) : Nat := (R j 4).toNat
def w1 (c : Int) (d : Nat) (F : Nat → Int) : Nat := if F 7 ≤ c + (d : Int) then (F 6).toNat else 0
def lw1 (c : Int) (R : Nat → Nat → Int) (d j : Nat) : Nat := w1 c d (R j)
def lW (c : Int) (R : Nat → Nat → Int) (N d : Nat) : Nat := sn (lw1 c R d) N
def lV (c : Int) (R : Nat → Nat → Int) (N : Nat) : Nat → Nat → Nat := VN N (lb R) (lr c R) (lp R) (ld R) (lW c R N)
def LQ (t : Int) (F : Nat → Int) : Prop := (F 0 = 0 ∨ F 0 = 1) ∧ perP (F 2) ∧ (1 ≤ F 3 ∧ F 3 ≤ F 4 ∧ F 4 ≤ F 2) ∧ ((F 0 = 0 → t ≤ F 5) ∧ F 5 ≤ t + 120) ∧ (0 < F 6 → F 0 = 0 ∧ t < F 7 ∧ F 7 ≤ F 5) ∧ 0 ≤ F 6
def LR (c : Int) (R : Nat → Nat → Int) (N : Nat) : Prop := ∀ j, j < N → LQ c (R j)
theorem rl_0 {r p : Nat} : rlN r p 0 = true ↔ r = 0 := by
  rw [rlN_iff]
  constructor
  · intro z; omega
  · intro z; subst z; exact ⟨Nat.le_refl _, Nat.zero_mod p⟩
theorem rl_s {r r' p m : Nat} (h : (r = 0 ∧ r' + 1 = p) ∨ (0 < r ∧ r' + 1 = r)) : rlN r' p m = true ↔ rlN r p (m + 1) = true := by
  rw [rlN_iff, rlN_iff]
  rcases h with ⟨h1, h2⟩ | ⟨h1, h2⟩
  · subst h1
    constructor
    · rintro ⟨a, b⟩
      refine ⟨Nat.zero_le _, ?_⟩
      rw [show m + 1 - 0 = (m - r') + p by omega, Nat.add_mod_right]
      exact b
    · rintro ⟨-, b⟩
      by_cases c : r' ≤ m
      · refine ⟨c, ?_⟩
        rw [show m + 1 - 0 = (m - r') + p by omega, Nat.add_mod_right] at b
        exact b
      · rw [show m + 1 - 0 = m + 1 by omega, Nat.mod_eq_of_lt (by omega)] at b
        omega
  · rw [show m + 1 - r = m - r' by omega]
    constructor
    · rintro ⟨a, b⟩; exact ⟨by omega, b⟩
    · rintro ⟨a, b⟩; exact ⟨by omega, b⟩
/-- a row after the releases of now -/
def rrl (c : Int) (F : Nat → Int) : Nat → Int := if F 0 = 0 ∧ F 5 = c then xrel F else F
theorem rwT_rel {t N : Nat} {S : xS} {j : Nat} (hj : j < N) : rwT t (relT t N S) j = rrl (S 2 t 2) (rwT t S j) := by
  funext f
  unfold rwT relT rrl
  by_cases c : S 10 (32 * t + j) 0 = 0 ∧ S 10 (32 * t + j) 5 = S 2 t 2
  · rw [if_pos ⟨rfl, by omega, by omega, c.1, c.2⟩, if_pos c]
  · rw [if_neg (fun z => c ⟨z.2.2.2.1, z.2.2.2.2⟩), if_neg c]
theorem rrl_w {c : Int} {R : Nat → Nat → Int} {j d : Nat} (h : LQ c (R j)) : w1 c d (rrl c (R j)) = w1 c d (R j) + (if rlN (lr c R j) (lp R j) 0 = true ∧ 0 + ld R j ≤ d then lb R j else 0) := by
  obtain ⟨h0, h1, h2, h3, h4, h6⟩ := h
  by_cases c1 : R j 0 = 0 ∧ R j 5 = c
  · have e6 : xrel (R j) 6 = R j 3 := rfl
    have e7 : xrel (R j) 7 = R j 5 + R j 4 := rfl
    have z6 : R j 6 = 0 := by omega
    have hr : rlN (lr c R j) (lp R j) 0 = true := rl_0.mpr (by unfold lr; omega)
    have er : rrl c (R j) = xrel (R j) := if_pos c1
    rw [er]
    unfold w1 lb
    have a0 : (if R j 7 ≤ c + (d : Int) then (0 : Int).toNat else 0) = 0 := by split <;> rfl
    rw [e6, e7, z6, if_pos c1.1, a0, Nat.zero_add]
    by_cases c2 : ld R j ≤ d
    · rw [if_pos (show R j 5 + R j 4 ≤ c + (d : Int) by unfold ld at c2; omega), if_pos ⟨hr, by omega⟩]
    · rw [if_neg (show ¬ R j 5 + R j 4 ≤ c + (d : Int) by unfold ld at c2; omega), if_neg (fun z => c2 (by omega))]
  · have er : rrl c (R j) = R j := if_neg c1
    rw [er]
    by_cases c2 : R j 0 = 0
    · rw [if_neg (fun z => by have := rl_0.mp z.1; unfold lr at this; omega)]
      rfl
    · unfold lb
      rw [if_neg c2]
      split <;> omega
theorem rrl_Q {c : Int} {F : Nat → Int} (h : LQ c F) : LQ c (rrl c F) ∧ (rrl c F 0 = 0 → c + 1 ≤ rrl c F 5) := by
  unfold rrl
  obtain ⟨h0, h1, h2, h3, h4, h6⟩ := h
  split
  · rename_i c1
    have e0 : xrel F 0 = F 0 := rfl
    have e2 : xrel F 2 = F 2 := rfl
    have e3 : xrel F 3 = F 3 := rfl
    have e4 : xrel F 4 = F 4 := rfl
    have e5 : xrel F 5 = F 5 + F 2 := rfl
    have e6 : xrel F 6 = F 3 := rfl
    have e7 : xrel F 7 = F 5 + F 4 := rfl
    unfold LQ
    rw [e0, e2, e3, e4, e5, e6, e7]
    exact ⟨⟨h0, h1, h2, by omega, by omega, by omega⟩, by omega⟩
  · exact ⟨⟨h0, h1, h2, h3, h4, h6⟩, by omega⟩
/-! the earliest -/
theorem bsg_none {op : Nat → Prop} {lt : Nat → Nat → Prop} : ∀ {i : Nat}, bsg op lt i none → ∀ j, j < i → ¬ op j
  | i + 1, ⟨q, h, g⟩, j, hj => by
    rcases g with ⟨g1, g2⟩ | ⟨-, -, g⟩ | ⟨-, b, rfl, ⟨-, g⟩ | ⟨-, g⟩⟩
    · subst g2
      by_cases e : j = i
      · rw [e]; exact g1
      · exact bsg_none h j (by omega)
    · cases g
    · cases g
    · cases g
theorem bsg_min {op : Nat → Prop} {v : Nat → Int} : ∀ {i b : Nat}, bsg op (fun a b => v a < v b) i (some b) → ∀ j, j < i → op j → v b ≤ v j
  | i + 1, b, ⟨q, h, g⟩, j, hj, oj => by
    by_cases e : j = i
    · subst e
      rcases g with ⟨g1, g2⟩ | ⟨-, -, g⟩ | ⟨-, b2, g0, ⟨-, g⟩ | ⟨g1, g⟩⟩
      · exact absurd oj g1
      · cases g; exact Int.le_refl _
      · cases g; exact Int.le_refl _
      · subst g
        cases g0
        omega
    · rcases g with ⟨g1, g2⟩ | ⟨-, g1, g⟩ | ⟨-, b2, g0, ⟨g1, g⟩ | ⟨g1, g⟩⟩
      · subst g2; exact bsg_min h j (by omega) oj
      · subst g1; exact absurd oj (bsg_none h j (by omega))
      · subst g0; cases g
        have a := bsg_min h j (by omega) oj
        omega
      · subst g; exact bsg_min h j (by omega) oj
theorem sn_dec {f g : Nat → Nat} {b : Nat} : ∀ {n : Nat}, b < n → (∀ i, i < n → i ≠ b → g i = f i) → g b + 1 = f b → sn g n + 1 = sn f n
  | n + 1, hb, h, e => by
    by_cases c : b = n
    · subst c
      rw [sn, sn, sn_congr (f := g) (g := f) (fun i hi => h i (by omega) (by omega))]
      omega
    · have a := sn_dec (n := n) (by omega) (fun i hi => h i (by omega)) e
      have z := h n (by omega) (by omega)
      rw [sn, sn]
      omega
theorem sn_nil {f : Nat → Nat} : ∀ {n : Nat}, sn f n = 0 ↔ ∀ i, i < n → f i = 0
  | 0 => ⟨fun _ i hi => absurd hi (Nat.not_lt_zero i), fun _ => rfl⟩
  | n + 1 => by
    rw [sn]
    constructor
    · intro h i hi
      by_cases c : i = n
      · subst c; omega
      · exact sn_nil.mp (show sn f n = 0 by omega) i (by omega)
    · intro h
      have a := sn_nil.mpr (fun i hi => h i (by omega) : ∀ i, i < n → f i = 0)
      have b := h n (by omega)
      omega
/-- a tick served: the work that is due sinks by one -/
theorem cho_W {t N d : Nat} {S : xS} {c : Int} (h : ∀ j, j < N → 0 ≤ S 10 (32 * t + j) 6) : lW c (rwT t (choT t N S)) N d = lW c (rwT t S) N d - 1 := by
  have hb := bstT_bsg t S N
  unfold choT
  cases e : bstT t S N with
  | none =>
    rw [e] at hb
    have h0 : lW c (rwT t S) N d = 0 := sn_nil.mpr (fun j hj => by
      have a := bsg_none hb j hj
      have b := h j hj
      unfold lw1 w1 rwT
      rw [show S 10 (32 * t + j) 6 = 0 by omega]
      split <;> rfl)
    show lW c (rwT t S) N d = _
    omega
  | some b =>
    rw [e] at hb
    obtain ⟨hbN, hb6⟩ := hb.lt
    have hm := bsg_min (v := fun j => S 10 (32 * t + j) 7) hb
    have e7 : ∀ j, rwT t (decT t (some b) S) j 7 = S 10 (32 * t + j) 7 := fun j => by show up S 10 (32 * t + b) 6 _ 10 (32 * t + j) 7 = _; rw [up_f (by decide)]
    have e6 : ∀ j, j ≠ b → rwT t (decT t (some b) S) j 6 = S 10 (32 * t + j) 6 := fun j hj => by show up S 10 (32 * t + b) 6 _ 10 (32 * t + j) 6 = _; rw [up_oth (by omega)]
    have e6b : rwT t (decT t (some b) S) b 6 = S 10 (32 * t + b) 6 - 1 := by show up S 10 (32 * t + b) 6 _ 10 (32 * t + b) 6 = _; rw [up_same]
    by_cases c1 : S 10 (32 * t + b) 7 ≤ c + (d : Int)
    · have a := sn_dec (f := lw1 c (rwT t S) d) (g := lw1 c (rwT t (decT t (some b) S)) d) hbN (fun j hj hn => by unfold lw1 w1; rw [e7, e6 j hn]; rfl) (by
        unfold lw1 w1
        rw [e7, e6b, if_pos c1, if_pos (show rwT t S b 7 ≤ _ from c1)]
        show _ = (S 10 (32 * t + b) 6).toNat
        have hb6' : 0 < S 10 (32 * t + b) 6 := hb6
        omega)
      show sn _ N = sn _ N - 1
      omega
    · have z1 : lW c (rwT t S) N d = 0 := sn_nil.mpr (fun j hj => by
        unfold lw1 w1 rwT
        have a := h j hj
        by_cases c2 : 0 < S 10 (32 * t + j) 6
        · have b := hm j hj c2
          rw [if_neg (by omega)]
        · rw [show S 10 (32 * t + j) 6 = 0 by omega]
          split <;> rfl)
      have z2 : lW c (rwT t (decT t (some b) S)) N d = 0 := sn_nil.mpr (fun j hj => by
        unfold lw1 w1
        rw [e7]
        by_cases c3 : j = b
        · subst c3; rw [if_neg c1]
        · rw [e6 j c3]; exact sn_nil.mp z1 j hj)
      omega

