/-! the state: processes, ticks; what holds of it -/
def PQ (T : Int) (F : Nat → Int) : Prop := (0 ≤ F 0 ∧ F 0 ≤ 1000000) ∧ (0 ≤ F 1 ∧ F 1 ≤ 9999) ∧ (0 ≤ F 2 ∧ F 2 ≤ 99) ∧ (0 ≤ F 3 ∧ F 3 ≤ 60) ∧ (0 ≤ F 4 ∧ F 4 ≤ 60) ∧ (0 ≤ F 5 ∧ F 5 ≤ T) ∧ (0 ≤ F 6 ∧ F 6 ≤ T) ∧ (0 ≤ F 7 ∧ F 7 ≤ T) ∧ (0 ≤ F 8 ∧ F 8 ≤ 99 * T) ∧ (0 ≤ F 9 ∧ F 9 ≤ 99 * T) ∧ (0 ≤ F 10 ∧ F 10 ≤ 99 * T)
def OQ (n : Nat) (t T : Int) (F : Nat → Int) : Prop := (0 ≤ F 1 ∧ F 1 < n) ∧ (0 < F 6 → 0 ≤ F 8 ∧ F 8 < n) ∧ (-1 ≤ F 8 ∧ F 8 < n) ∧ (-1 ≤ F 9 ∧ F 9 ≤ 99999) ∧ (0 ≤ F 11 ∧ F 11 ≤ 50) ∧ (0 < F 11 → 0 ≤ F 10 ∧ F 10 < n) ∧ (F 11 = 0 → F 10 = -1) ∧ (0 ≤ F 12 ∧ F 12 ≤ T) ∧ (0 ≤ F 13 ∧ F 13 ≤ T) ∧ (0 ≤ F 14 ∧ F 14 ≤ T) ∧ (F 3 ≤ F 4 ∧ F 4 ≤ F 2) ∧ (0 < F 6 → t < F 7)
def GQ (n : Nat) (T : Int) (G : Nat → Int) : Prop := G 3 = (n : Int) ∧ (0 ≤ G 4 ∧ G 4 ≤ 99) ∧ (0 ≤ G 5 ∧ G 5 ≤ 50) ∧ (0 ≤ G 6 ∧ G 6 ≤ 1000000 * T) ∧ (-1 ≤ G 7 ∧ G 7 < n) ∧ (0 ≤ G 8 ∧ G 8 ≤ T) ∧ (0 ≤ G 9 ∧ G 9 ≤ T) ∧ (0 ≤ G 10 ∧ G 10 ≤ T) ∧ (0 ≤ G 11 ∧ G 11 ≤ T) ∧ (0 ≤ G 12 ∧ G 12 ≤ T) ∧ (0 ≤ G 13 ∧ G 13 ≤ 21 * T)
def SQ (T : Int) (F B : Nat → Int) : Prop := (0 ≤ F 1 ∧ 1000 * F 1 ≤ T) ∧ (0 ≤ F 2 ∧ F 2 ≤ 100 * T) ∧ ∀ i, i < 64 → 0 ≤ B i ∧ B i ≤ T
def VS (s n N : Nat) (T : Int) (S : xS) : Prop := VT s N T S ∧ N ≤ 20 ∧ n ≤ 8 ∧ GQ n T (S 1 s) ∧ (∀ p, p < n → PQ T (S 4 (8 * s + p))) ∧ (∀ j, j < N → OQ n (S 2 s 2) T (S 10 (32 * s + j))) ∧ SQ T (S 5 s) (S 25 s)
def arrS (s i : Nat) (S : xS) : xS := fun k j f => if k = 4 ∧ 8 * s ≤ j ∧ j < 8 * s + i ∧ f = 1 then xarr (S 2 s 2) (S 4 j 3) (S 4 j 4) (S 4 j 1) else S k j f
def nxtS (s n : Nat) (S : xS) : Nat → Int → Int
  | 0, _ => -1
  | k + 1, c => if 0 < S 4 (8 * s + (if c + 1 < n then c + 1 else 0).toNat) 1 then (if c + 1 < n then c + 1 else 0) else nxtS s n S k (if c + 1 < n then c + 1 else 0)
def frpS (s c : Nat) (S : xS) : xS := up (up (up (up S 4 (8 * s + c) 1 (S 4 (8 * s + c) 1 - 1)) 4 (8 * s + c) 7 (S 4 (8 * s + c) 7 + 1)) 1 s 11 (S 1 s 11 + 1)) 1 s 7 (c : Int)
def freS (s n : Nat) (S : xS) : xS := if nxtS s n S n (S 1 s 7) = -1 then up S 1 s 12 (S 1 s 12 + 1) else frpS s (nxtS s n S n (S 1 s 7)).toNat S
def hbdS (s : Nat) (S : xS) : Nat → Option Nat
  | 0 => none
  | i + 1 => if 0 < S 4 (8 * s + i) 1 ∧ 0 < S 4 (8 * s + i) 2 ∧ S 4 (8 * s + i) 2 ≤ S 4 (8 * s + i) 0 then (match hbdS s S i with | none => some i | some b => if S 4 (8 * s + b) 2 < S 4 (8 * s + i) 2 then some i else some b) else hbdS s S i
def usdS (s h j : Nat) (S : xS) : xS := up (up (up (up S 4 h 1 (S 4 h 1 - 1)) 4 h 5 (S 4 h 5 + 1)) 10 j 12 (S 10 j 12 + 1)) 1 s 8 (S 1 s 8 + 1)
def slcS (h q : Nat) (S : xS) : xS := up (up (up (up (up (up S 4 q 0 (S 4 q 0 - S 4 q 2)) 4 q 1 (S 4 q 1 - 1)) 4 q 6 (S 4 q 6 + 1)) 4 q 9 (S 4 q 9 + S 4 q 2)) 4 h 0 (xmin 1000000 (S 4 h 0 + S 4 q 2))) 4 h 8 (S 4 h 8 + S 4 q 2)
def sltS (s h q j : Nat) (S : xS) : xS := up (up (slcS h q S) 10 j 13 (S 10 j 13 + 1)) 1 s 9 (S 1 s 9 + 1)
def pnlS (s h : Nat) (S : xS) : xS := up (up (up S 4 h 0 (S 4 h 0 - xmin (S 1 s 4) (S 4 h 0))) 4 h 10 (S 4 h 10 + xmin (S 1 s 4) (S 4 h 0))) 1 s 6 (S 1 s 6 + xmin (S 1 s 4) (S 4 h 0))
def wstS (s h j : Nat) (S : xS) : xS := up (up (pnlS s h S) 10 j 14 (S 10 j 14 + 1)) 1 s 10 (S 1 s 10 + 1)
def useS (s n j : Nat) (S : xS) : xS := if 0 < S 4 (8 * s + (S 10 j 8).toNat) 1 then usdS s (8 * s + (S 10 j 8).toNat) j S else (match hbdS s S n with | some q => sltS s (8 * s + (S 10 j 8).toNat) (8 * s + q) j S | none => wstS s (8 * s + (S 10 j 8).toNat) j S)
def actS (s n N : Nat) (S : xS) : xS := match bstT s S N with | none => freS s n S | some b => useS s n (32 * s + b) (decT s (some b) S)
def endS (s N : Nat) (S : xS) : xS := up (groT s N S) 1 s 13 (S 1 s 13 + misT s N S)
def tckS (s n N : Nat) (S : xS) : xS := endS s N (actS s n N (relT s N (arrS s n S)))
/-- nothing but the state s has changed -/
def xts (s : Nat) (S' S : xS) : Prop := ∀ x y, ¬ (x = 1 ∧ y = s) → ¬ (x = 2 ∧ y = s) → ¬ (x = 4 ∧ 8 * s ≤ y ∧ y < 8 * s + 8) → ¬ (x = 5 ∧ y = s) → ¬ (x = 10 ∧ 32 * s ≤ y ∧ y < 32 * s + 32) → ¬ (x = 25 ∧ y = s) → S' x y = S x y
theorem xts.rf {s : Nat} {S : xS} : xts s S S := fun _ _ _ _ _ _ _ _ => rfl
theorem xts.tr {u : Nat} {S1 S2 S3 : xS} (h : xts u S3 S2) (g : xts u S2 S1) : xts u S3 S1 := fun x y h1 h2 h3 h4 h5 h6 => (h x y h1 h2 h3 h4 h5 h6).trans (g x y h1 h2 h3 h4 h5 h6)
theorem xtl.ts {u : Nat} {S1 S2 : xS} (h : xtl u S2 S1) : xts u S2 S1 := fun x y _ h2 _ _ h5 _ => h x y h2 h5
theorem xts.up1 {s f : Nat} {v : Int} {S1 S2 : xS} (h : xts s S2 S1) : xts s (up S2 1 s f v) S1 := fun x y h1 h2 h3 h4 h5 h6 => by rw [up_oth (by omega)]; exact h x y h1 h2 h3 h4 h5 h6
theorem xts.up4 {s f p : Nat} {v : Int} {S1 S2 : xS} (hp : p < 8) (h : xts s S2 S1) : xts s (up S2 4 (8 * s + p) f v) S1 := fun x y h1 h2 h3 h4 h5 h6 => by rw [up_oth (by omega)]; exact h x y h1 h2 h3 h4 h5 h6
theorem xts.up10 {s f p : Nat} {v : Int} {S1 S2 : xS} (hp : p < 32) (h : xts s S2 S1) : xts s (up S2 10 (32 * s + p) f v) S1 := fun x y h1 h2 h3 h4 h5 h6 => by rw [up_oth (by omega)]; exact h x y h1 h2 h3 h4 h5 h6
theorem hbdS_lt {s : Nat} {S : xS} : ∀ {i b : Nat}, hbdS s S i = some b → b < i ∧ 0 < S 4 (8 * s + b) 1 ∧ 0 < S 4 (8 * s + b) 2 ∧ S 4 (8 * s + b) 2 ≤ S 4 (8 * s + b) 0
  | 0, _, h => nomatch h
  | i + 1, b, h => by
    unfold hbdS at h
    split at h
    · rename_i c
      split at h
      · cases h; exact ⟨by omega, c⟩
      · rename_i q e
        split at h
        · cases h; exact ⟨by omega, c⟩
        · cases h; have := hbdS_lt e; exact ⟨by omega, this.2⟩
    · have := hbdS_lt h; exact ⟨by omega, this.2⟩
theorem nxtS_r {s n : Nat} {S : xS} (hn : 0 < n) : ∀ (k : Nat) (c : Int), -1 ≤ c → nxtS s n S k c = -1 ∨ (0 ≤ nxtS s n S k c ∧ nxtS s n S k c < n ∧ 0 < S 4 (8 * s + (nxtS s n S k c).toNat) 1)
  | 0, _, _ => Or.inl rfl
  | k + 1, c, hc => by
    unfold nxtS
    by_cases h : 0 < S 4 (8 * s + (if c + 1 < n then c + 1 else 0).toNat) 1
    · rw [if_pos h]
      refine Or.inr ⟨?_, ?_, h⟩ <;> split <;> omega
    · rw [if_neg h]
      exact nxtS_r hn k _ (by split <;> omega)
/-! it holds on -/
theorem xarr_r {t e a b : Int} (ha : 0 ≤ a) (hb : 0 ≤ b ∧ b ≤ 9999) : 0 ≤ xarr t e a b ∧ xarr t e a b ≤ 9999 := by
  unfold xarr xmin
  split
  · split <;> omega
  · exact hb
theorem VS.vt {s n N : Nat} {T : Int} {S : xS} (h : VS s n N T S) : VT s N T S := h.1
theorem PQ.mono {T T' : Int} {F : Nat → Int} (h : PQ T F) (h2 : T ≤ T') : PQ T' F := by unfold PQ at h ⊢; omega
theorem OQ.mono {n n' : Nat} {t T T' : Int} {F : Nat → Int} (h : OQ n t T F) (h2 : T ≤ T') (hn : n ≤ n') : OQ n' t T' F := by unfold OQ at h ⊢; omega
theorem GQ.mono {n : Nat} {T T' : Int} {F : Nat → Int} (h : GQ n T F) (h2 : T ≤ T') : GQ n T' F := by unfold GQ at h ⊢; omega
theorem SQ.mono {T T' : Int} {F G : Nat → Int} (h : SQ T F G) (h2 : T ≤ T') : SQ T' F G := by
  obtain ⟨h1, h3, h4⟩ := h
  refine ⟨by omega, by omega, fun i hi => ?_⟩
  have := h4 i hi
  omega
theorem VT.mono {s N : Nat} {T T' : Int} {S : xS} (h : VT s N T S) (h2 : T ≤ T') : VT s N T' S := ⟨h.1, h.2.1, by have := h.2.2.1; omega, fun j hj => (h.2.2.2 j hj).mono (Int.le_refl _) h2⟩
theorem VS.mono {s n N : Nat} {T T' : Int} {S : xS} (h : VS s n N T S) (h2 : T ≤ T') : VS s n N T' S := ⟨h.1.mono h2, h.2.1, h.2.2.1, h.2.2.2.1.mono h2, fun p hp => (h.2.2.2.2.1 p hp).mono h2, fun j hj => (h.2.2.2.2.2.1 j hj).mono h2 (Nat.le_refl _), h.2.2.2.2.2.2.mono h2⟩
theorem VS.arr {s n N i : Nat} {T : Int} {S : xS} (h : VS s n N T S) : VS s n N T (arrS s i S) := by
  obtain ⟨⟨a1, a2, a3, a4⟩, h2, h3, h4, h5, h6, h7⟩ := h
  have e : ∀ k, k ≠ 4 → arrS s i S k = S k := fun k hk => by funext j f; unfold arrS; rw [if_neg (by omega)]
  refine ⟨⟨by rw [e 2 (by decide)]; exact a1, a2, by rw [e 2 (by decide)]; exact a3, by rw [e 2 (by decide), e 10 (by decide)]; exact a4⟩, h2, h3, by rw [e 1 (by decide)]; exact h4, fun p hp => ?_, by rw [e 2 (by decide), e 10 (by decide)]; exact h6, by rw [e 5 (by decide), e 25 (by decide)]; exact h7⟩
  have h9 := h5 p hp
  have e4 : ∀ f, f ≠ 1 → arrS s i S 4 (8 * s + p) f = S 4 (8 * s + p) f := fun f hf => by unfold arrS; rw [if_neg (by omega)]
  have e1 : arrS s i S 4 (8 * s + p) 1 = xarr (S 2 s 2) (S 4 (8 * s + p) 3) (S 4 (8 * s + p) 4) (S 4 (8 * s + p) 1) ∨ arrS s i S 4 (8 * s + p) 1 = S 4 (8 * s + p) 1 := by
    unfold arrS
    split
    · exact Or.inl rfl
    · exact Or.inr rfl
  unfold PQ at h9 ⊢
  rw [e4 0 (by decide), e4 2 (by decide), e4 3 (by decide), e4 4 (by decide), e4 5 (by decide), e4 6 (by decide), e4 7 (by decide), e4 8 (by decide), e4 9 (by decide), e4 10 (by decide)]
  have h8 := xarr_r (t := S 2 s 2) (e := S 4 (8 * s + p) 3) (a := S 4 (8 * s + p) 4) (b := S 4 (8 * s + p) 1) (by omega) (by omega)
  rcases e1 with e1 | e1 <;> rw [e1] <;> omega
theorem OQ.rel {n : Nat} {t T : Int} {F : Nat → Int} (h : OQ n t T F) (hT : TQ t T F) (h5 : F 5 = t) : OQ n t (T + 1) (xrel F) := by
  unfold OQ TQ at *
  have e : ∀ f, f ≠ 5 → f ≠ 6 → f ≠ 7 → f ≠ 15 → f ≠ 8 → f ≠ 10 → f ≠ 11 → xrel F f = F f := fun f h1 h2 h3 h4 h5 h6 h7 => by unfold xrel; rw [if_neg h1, if_neg h2, if_neg h3, if_neg h4, if_neg h5, if_neg h6, if_neg h7]
  have e6 : xrel F 6 = F 3 := rfl
  have e7 : xrel F 7 = F 5 + F 4 := rfl
  have e8 : xrel F 8 = if 0 < F 11 then F 10 else F 1 := rfl
  have e10 : xrel F 10 = if 0 < F 11 then (if 0 < F 11 - 1 then F 10 else -1) else F 10 := rfl
  have e11 : xrel F 11 = if 0 < F 11 then F 11 - 1 else F 11 := rfl
  rw [e 1 (by decide) (by decide) (by decide) (by decide) (by decide) (by decide) (by decide), e 9 (by decide) (by decide) (by decide) (by decide) (by decide) (by decide) (by decide), e 12 (by decide) (by decide) (by decide) (by decide) (by decide) (by decide) (by decide), e 13 (by decide) (by decide) (by decide) (by decide) (by decide) (by decide) (by decide), e 14 (by decide) (by decide) (by decide) (by decide) (by decide) (by decide) (by decide), e 3 (by decide) (by decide) (by decide) (by decide) (by decide) (by decide) (by decide), e 4 (by decide) (by decide) (by decide) (by decide) (by decide) (by decide) (by decide), e 2 (by decide) (by decide) (by decide) (by decide) (by decide) (by decide) (by decide), e6, e7, e8, e10, e11]
  by_cases c : 0 < F 11
  · rw [if_pos c, if_pos c, if_pos c]
    by_cases c2 : 0 < F 11 - 1
    · rw [if_pos c2]; omega
    · rw [if_neg c2]; omega
  · rw [if_neg c, if_neg c, if_neg c]; omega
theorem VS.rel {s n N : Nat} {T : Int} {S : xS} (h : VS s n N T S) : VS s n N (T + 1) (relT s N S) := by
  obtain ⟨hV, h2, h3, h4, h5, h6, h7⟩ := h
  have e : ∀ k, k ≠ 10 → relT s N S k = S k := fun k hk => by funext j f; unfold relT; rw [if_neg (by omega)]
  refine ⟨hV.rel, h2, h3, by rw [e 1 (by decide)]; exact h4.mono (by omega), fun p hp => by rw [e 4 (by decide)]; exact (h5 p hp).mono (by omega), fun j hj => ?_, by rw [e 5 (by decide), e 25 (by decide)]; exact h7.mono (by omega)⟩
  rw [e 2 (by decide)]
  by_cases c : S 10 (32 * s + j) 0 = 0 ∧ S 10 (32 * s + j) 5 = S 2 s 2
  · have e : relT s N S 10 (32 * s + j) = xrel (S 10 (32 * s + j)) := by funext f; unfold relT; rw [if_pos ⟨rfl, by omega, by omega, c⟩]
    rw [e]
    exact (h6 j hj).rel (hV.2.2.2 j hj) c.2
  · have e : relT s N S 10 (32 * s + j) = S 10 (32 * s + j) := by funext f; unfold relT; rw [if_neg (fun z => c z.2.2.2)]
    rw [e]
    exact (h6 j hj).mono (by omega) (Nat.le_refl _)
theorem VS.dec {s n N b : Nat} {T : Int} {S : xS} (h : VS s n N T S) (hb : bstT s S N = some b) : VS s n N T (decT s (some b) S) := by
  obtain ⟨hV, h2, h3, h4, h5, h6, h7⟩ := h
  have hV2 := hV.cho
  unfold choT at hV2
  rw [hb] at hV2
  have hl := bstT_lt hb
  refine ⟨hV2, h2, h3, h4, h5, fun j hj => ?_, h7⟩
  unfold decT
  show OQ n (S 2 s 2) T (up S 10 (32 * s + b) 6 _ 10 (32 * s + j))
  have h9 := h6 j hj
  by_cases e : j = b
  · subst e
    rw [up_row]
    unfold OQ at h9 ⊢
    simp (decide := true) only [if_true, if_false]
    omega
  · rw [up_oth (by omega)]
    exact h9
theorem VS.gro {s n N : Nat} {T : Int} {S : xS} (h : VS s n N T S) : VS s n N (T + 1) (endS s N S) := by
  obtain ⟨hV, h2, h3, h4, h5, h6, h7⟩ := h
  have hm := misT_r (t := s) (N := N) (S := S) (by omega)
  have e : ∀ k, k ≠ 2 → k ≠ 10 → k ≠ 1 → endS s N S k = S k := fun k hk hk2 hk3 => by funext j f; unfold endS; rw [up_k hk3]; unfold groT; rw [if_neg (by omega), if_neg (by omega)]
  have e1 : ∀ f, f ≠ 13 → endS s N S 1 s f = S 1 s f := fun f hf => by unfold endS; rw [up_f hf]; unfold groT; rw [if_neg (by omega), if_neg (by omega)]
  have e13 : endS s N S 1 s 13 = S 1 s 13 + misT s N S := by unfold endS; rw [up_same]
  have e2 : endS s N S 2 = groT s N S 2 := by funext j f; unfold endS; rw [up_k (by decide)]
  have e10 : endS s N S 10 = groT s N S 10 := by funext j f; unfold endS; rw [up_k (by decide)]
  have hV2 := hV.gro
  refine ⟨?_, h2, h3, ?_, fun p hp => by rw [e 4 (by decide) (by decide) (by decide)]; exact (h5 p hp).mono (by omega), fun j hj => ?_, by rw [e 5 (by decide) (by decide) (by decide), e 25 (by decide) (by decide) (by decide)]; exact h7.mono (by omega)⟩
  · unfold VT at hV2 ⊢
    rw [e2, e10]
    exact hV2
  · unfold GQ at h4 ⊢
    rw [e1 3 (by decide), e1 4 (by decide), e1 5 (by decide), e1 6 (by decide), e1 7 (by decide), e1 8 (by decide), e1 9 (by decide), e1 10 (by decide), e1 11 (by decide), e1 12 (by decide), e13]
    omega
  · have e : groT s N S 10 (32 * s + j) = xmis (S 2 s 2 + 1) (S 10 (32 * s + j)) := by funext f; unfold groT; rw [if_neg (by omega), if_pos ⟨rfl, by omega, by omega⟩]
    have e3 : groT s N S 2 s 2 = S 2 s 2 + 1 := by unfold groT; rw [if_pos ⟨rfl, rfl, rfl⟩]
    rw [e2, e10, e, e3]
    have h9 := h6 j hj
    by_cases c : 0 < S 10 (32 * s + j) 6 ∧ S 10 (32 * s + j) 7 ≤ S 2 s 2 + 1
    · have e : ∀ f, xmis (S 2 s 2 + 1) (S 10 (32 * s + j)) f = if f = 6 then 0 else if f = 16 then S 10 (32 * s + j) 16 + 1 else S 10 (32 * s + j) f := fun f => by unfold xmis; rw [if_pos c]
      have e6 : xmis (S 2 s 2 + 1) (S 10 (32 * s + j)) 6 = 0 := by rw [e 6, if_pos rfl]
      have eo : ∀ f, f ≠ 6 → f ≠ 16 → xmis (S 2 s 2 + 1) (S 10 (32 * s + j)) f = S 10 (32 * s + j) f := fun f h1 h2 => by rw [e f, if_neg h1, if_neg h2]
      unfold OQ at h9 ⊢
      rw [eo 1 (by decide) (by decide), eo 2 (by decide) (by decide), eo 3 (by decide) (by decide), eo 4 (by decide) (by decide), e6, eo 7 (by decide) (by decide), eo 8 (by decide) (by decide), eo 9 (by decide) (by decide), eo 10 (by decide) (by decide), eo 11 (by decide) (by decide), eo 12 (by decide) (by decide), eo 13 (by decide) (by decide), eo 14 (by decide) (by decide)]
      omega
    · have e : xmis (S 2 s 2 + 1) (S 10 (32 * s + j)) = S 10 (32 * s + j) := by funext f; unfold xmis; rw [if_neg c]
      rw [e]
      unfold OQ at h9 ⊢
      omega
/-- only processes' rows, state fields and counts of promises have changed -/
theorem VS.chg {s n N : Nat} {T T' : Int} {S S' : xS} (h : VS s n N T S) (hT : T ≤ T') (e2 : S' 2 s = S 2 s) (e5 : S' 5 s = S 5 s) (e25 : S' 25 s = S 25 s) (hG : GQ n T' (S' 1 s)) (hP : ∀ p, p < n → PQ T' (S' 4 (8 * s + p))) (hO : ∀ j f, j < N → f ≠ 12 → f ≠ 13 → f ≠ 14 → S' 10 (32 * s + j) f = S 10 (32 * s + j) f) (hC : ∀ j, j < N → (0 ≤ S' 10 (32 * s + j) 12 ∧ S' 10 (32 * s + j) 12 ≤ T') ∧ (0 ≤ S' 10 (32 * s + j) 13 ∧ S' 10 (32 * s + j) 13 ≤ T') ∧ (0 ≤ S' 10 (32 * s + j) 14 ∧ S' 10 (32 * s + j) 14 ≤ T')) : VS s n N T' S' := by
  obtain ⟨⟨a1, a2, a3, a4⟩, h2, h3, h4, h5, h6, h7⟩ := h
  refine ⟨⟨by rw [e2]; exact a1, a2, by rw [e2]; omega, fun j hj => ?_⟩, h2, h3, hG, hP, fun j hj => ?_, by rw [e5, e25]; exact h7.mono hT⟩
  · have h9 := (a4 j hj).mono (Int.le_refl _) hT
    unfold TQ at h9 ⊢
    rw [e2, hO j 0 hj (by decide) (by decide) (by decide), hO j 2 hj (by decide) (by decide) (by decide), hO j 3 hj (by decide) (by decide) (by decide), hO j 4 hj (by decide) (by decide) (by decide), hO j 5 hj (by decide) (by decide) (by decide), hO j 6 hj (by decide) (by decide) (by decide), hO j 7 hj (by decide) (by decide) (by decide), hO j 15 hj (by decide) (by decide) (by decide), hO j 16 hj (by decide) (by decide) (by decide)]
    exact h9
  · have h9 := h6 j hj
    have h8 := hC j hj
    unfold OQ at h9 ⊢
    rw [e2, hO j 1 hj (by decide) (by decide) (by decide), hO j 2 hj (by decide) (by decide) (by decide), hO j 3 hj (by decide) (by decide) (by decide), hO j 4 hj (by decide) (by decide) (by decide), hO j 6 hj (by decide) (by decide) (by decide), hO j 7 hj (by decide) (by decide) (by decide), hO j 8 hj (by decide) (by decide) (by decide), hO j 9 hj (by decide) (by decide) (by decide), hO j 10 hj (by decide) (by decide) (by decide), hO j 11 hj (by decide) (by decide) (by decide)]
    omega
theorem VS.fre {s n N : Nat} {T : Int} {S : xS} (h : VS s n N T S) : VS s n N (T + 1) (freS s n S) := by
  obtain ⟨hV, h2, h3, h4, h5, h6, h7⟩ := id h
  unfold freS
  have hC : ∀ j, j < N → (0 ≤ S 10 (32 * s + j) 12 ∧ S 10 (32 * s + j) 12 ≤ T + 1) ∧ (0 ≤ S 10 (32 * s + j) 13 ∧ S 10 (32 * s + j) 13 ≤ T + 1) ∧ (0 ≤ S 10 (32 * s + j) 14 ∧ S 10 (32 * s + j) 14 ≤ T + 1) := fun j hj => by have := h6 j hj; unfold OQ at this; omega
  split
  · refine h.chg (by omega) (up_oth (by omega)) (up_oth (by omega)) (up_oth (by omega)) ?_ (fun p hp => by rw [up_oth (by omega)]; exact (h5 p hp).mono (by omega)) (fun j f _ _ _ _ => up_k (by decide)) (fun j hj => by simp only [up_oth (show ¬ (10 = 1 ∧ 32 * s + j = s) by omega)]; exact hC j hj)
    rw [up_row]
    unfold GQ at h4 ⊢
    simp (decide := true) only [if_true, if_false]
    omega
  · rename_i c
    by_cases hn : 0 < n
    · have hr := nxtS_r (s := s) (S := S) hn n (S 1 s 7) (by unfold GQ at h4; omega)
      obtain ⟨q, hq⟩ : ∃ q : Nat, nxtS s n S n (S 1 s 7) = (q : Int) := ⟨(nxtS s n S n (S 1 s 7)).toNat, by omega⟩
      rw [hq] at hr ⊢
      rw [Int.toNat_natCast] at hr ⊢
      have hqn : q < n := by omega
      refine h.chg (by omega) ?_ ?_ ?_ ?_ (fun p hp => ?_) (fun j f _ _ _ _ => ?_) (fun j hj => ?_)
      · unfold frpS; rw [up_oth (by omega), up_oth (by omega), up_oth (by omega), up_oth (by omega)]
      · unfold frpS; rw [up_oth (by omega), up_oth (by omega), up_oth (by omega), up_oth (by omega)]
      · unfold frpS; rw [up_oth (by omega), up_oth (by omega), up_oth (by omega), up_oth (by omega)]
      · unfold GQ at h4 ⊢
        unfold frpS
        simp (decide := true) only [up_app, if_true, if_false, and_true, true_and, and_false, false_and]
        omega
      · have h9 := h5 p hp
        by_cases e : p = q
        · subst e
          unfold PQ at h9 ⊢
          unfold frpS
          simp (decide := true) only [up_app, if_true, if_false, and_true, true_and, and_false, false_and]
          omega
        · unfold frpS
          rw [up_oth (by omega), up_oth (by omega), up_oth (by omega), up_oth (by omega)]
          exact h9.mono (by omega)
      · unfold frpS
        rw [up_k (by decide), up_k (by decide), up_k (by decide), up_k (by decide)]
      · have e : ∀ f, frpS s q S 10 (32 * s + j) f = S 10 (32 * s + j) f := fun f => by unfold frpS; rw [up_k (by decide), up_k (by decide), up_k (by decide), up_k (by decide)]
        rw [e, e, e]
        exact hC j hj
    · exact absurd (by rw [show n = 0 by omega]; rfl) c
theorem VS.use {s n N b : Nat} {T : Int} {S : xS} (h : VS s n N T S) (hb : b < N) (hh : 0 ≤ S 10 (32 * s + b) 8 ∧ S 10 (32 * s + b) 8 < n) : VS s n N (T + 1) (useS s n (32 * s + b) S) := by
  obtain ⟨hV, h2, h3, h4, h5, h6, h7⟩ := id h
  unfold useS
  obtain ⟨g, hg⟩ : ∃ g : Nat, S 10 (32 * s + b) 8 = (g : Int) := ⟨(S 10 (32 * s + b) 8).toNat, by omega⟩
  rw [hg, Int.toNat_natCast]
  have hgn : g < n := by omega
  have hgP := h5 g hgn
  have ht : 0 ≤ T := by have := hV.2.2.1; omega
  split
  · rename_i c
    refine h.chg (by omega) ?_ ?_ ?_ ?_ (fun p hp => ?_) (fun j f hj hf _ _ => ?_) (fun j hj => ?_)
    · unfold usdS; rw [up_oth (by omega), up_oth (by omega), up_oth (by omega), up_oth (by omega)]
    · unfold usdS; rw [up_oth (by omega), up_oth (by omega), up_oth (by omega), up_oth (by omega)]
    · unfold usdS; rw [up_oth (by omega), up_oth (by omega), up_oth (by omega), up_oth (by omega)]
    · unfold GQ at h4 ⊢
      unfold usdS
      simp (decide := true) only [up_app, if_true, if_false, and_true, true_and, and_false, false_and]
      omega
    · have h9 := h5 p hp
      by_cases e : p = g
      · subst e
        unfold PQ at h9 ⊢
        unfold usdS
        simp (decide := true) only [up_app, if_true, if_false, and_true, true_and, and_false, false_and]
        omega
      · unfold usdS
        rw [up_oth (by omega), up_oth (by omega), up_oth (by omega), up_oth (by omega)]
        exact h9.mono (by omega)
    · unfold usdS
      rw [up_k (by decide), up_f hf, up_k (by decide), up_k (by decide)]
    · have h9 := h6 j hj
      unfold OQ at h9
      unfold usdS
      by_cases e : j = b
      · subst e
        simp (decide := true) only [up_app, if_true, if_false, and_true, true_and, and_false, false_and]
        omega
      · rw [up_oth (by omega), up_oth (by omega), up_oth (by omega), up_oth (by omega)]
        omega
  · rename_i c
    split
    · rename_i q hq
      have hl := hbdS_lt hq
      have hqg : q ≠ g := fun e => by rw [e] at hl; exact c hl.2.1
      have hqP := h5 q hl.1
      have hX := xmin_or 1000000 (S 4 (8 * s + g) 0 + S 4 (8 * s + q) 2)
      have hX2 := xmin_le 1000000 (S 4 (8 * s + g) 0 + S 4 (8 * s + q) 2)
      refine h.chg (by omega) ?_ ?_ ?_ ?_ (fun p hp => ?_) (fun j f hj _ hf _ => ?_) (fun j hj => ?_)
      · unfold sltS slcS; repeat rw [up_oth (by omega)]
      · unfold sltS slcS; repeat rw [up_oth (by omega)]
      · unfold sltS slcS; repeat rw [up_oth (by omega)]
      · unfold GQ at h4 ⊢
        unfold sltS slcS
        simp (decide := true) only [up_app, if_true, if_false, and_true, true_and, and_false, false_and]
        omega
      · have h9 := h5 p hp
        by_cases e : p = g
        · subst e
          have hne : (8 * s + p = 8 * s + q) = False := eq_false (by omega)
          unfold PQ at h9 hqP ⊢
          unfold sltS slcS
          simp (decide := true) only [up_app, hne, if_true, if_false, and_true, true_and, and_false, false_and]
          omega
        · by_cases e2 : p = q
          · subst e2
            have hne : (8 * s + p = 8 * s + g) = False := eq_false (by omega)
            unfold PQ at h9 ⊢
            unfold sltS slcS
            simp (decide := true) only [up_app, hne, if_true, if_false, and_true, true_and, and_false, false_and]
            omega
          · unfold sltS slcS
            repeat rw [up_oth (by omega)]
            exact h9.mono (by omega)
      · unfold sltS slcS
        rw [up_k (by decide), up_f hf]
        repeat rw [up_k (by decide)]
      · have h9 := h6 j hj
        unfold OQ at h9
        unfold sltS slcS
        by_cases e : j = b
        · subst e
          simp (decide := true) only [up_app, if_true, if_false, and_true, true_and, and_false, false_and]
          omega
        · repeat rw [up_oth (by omega)]
          omega
    · have hX := xmin_or (S 1 s 4) (S 4 (8 * s + g) 0)
      have hX2 := xmin_le (S 1 s 4) (S 4 (8 * s + g) 0)
      have hX3 : 0 ≤ xmin (S 1 s 4) (S 4 (8 * s + g) 0) ∧ xmin (S 1 s 4) (S 4 (8 * s + g) 0) ≤ 99 := by unfold GQ at h4; unfold PQ at hgP; omega
      refine h.chg (by omega) ?_ ?_ ?_ ?_ (fun p hp => ?_) (fun j f hj _ _ hf => ?_) (fun j hj => ?_)
      · unfold wstS pnlS; repeat rw [up_oth (by omega)]
      · unfold wstS pnlS; repeat rw [up_oth (by omega)]
      · unfold wstS pnlS; repeat rw [up_oth (by omega)]
      · unfold GQ at h4 ⊢
        unfold wstS pnlS
        simp (decide := true) only [up_app, if_true, if_false, and_true, true_and, and_false, false_and]
        omega
      · have h9 := h5 p hp
        by_cases e : p = g
        · subst e
          unfold PQ at h9 ⊢
          unfold wstS pnlS
          simp (decide := true) only [up_app, if_true, if_false, and_true, true_and, and_false, false_and]
          omega
        · unfold wstS pnlS
          repeat rw [up_oth (by omega)]
          exact h9.mono (by omega)
      · unfold wstS pnlS
        rw [up_k (by decide), up_f hf]
        repeat rw [up_k (by decide)]
      · have h9 := h6 j hj
        unfold OQ at h9
        unfold wstS pnlS
        by_cases e : j = b
        · subst e
          simp (decide := true) only [up_app, if_true, if_false, and_true, true_and, and_false, false_and]
          omega
        · repeat rw [up_oth (by omega)]
          omega
theorem VS.act {s n N : Nat} {T : Int} {S : xS} (h : VS s n N T S) : VS s n N (T + 1) (actS s n N S) := by
  unfold actS
  cases hb : bstT s S N with
  | none => exact h.fre
  | some b =>
    have hl := bstT_lt hb
    refine (h.dec hb).use hl.1 ?_
    have h9 := h.2.2.2.2.2.1 b hl.1
    unfold OQ at h9
    unfold decT
    show 0 ≤ up S 10 _ 6 _ 10 _ 8 ∧ up S 10 _ 6 _ 10 _ 8 < _
    rw [up_f (by decide)]
    exact h9.2.1 hl.2
theorem VS.tck {s n N : Nat} {T : Int} {S : xS} (h : VS s n N T S) : VS s n N (T + 3) (tckS s n N S) := by
  have h9 := (h.arr (i := n)).rel.act.gro
  rw [show T + 3 = T + 1 + 1 + 1 by omega]
  exact h9
/-! frames -/
theorem arrS_fr {s i : Nat} {S : xS} (hi : i ≤ 8) : xts s (arrS s i S) S := fun x y h1 h2 h3 h4 h5 h6 => by
  funext f
  unfold arrS
  rw [if_neg (by omega)]
theorem freS_fr {s n : Nat} {S : xS} (hn : n ≤ 8) (h7 : -1 ≤ S 1 s 7) : xts s (freS s n S) S := by
  unfold freS
  split
  · exact xts.rf.up1
  · rename_i c
    by_cases h0 : 0 < n
    · have hr := nxtS_r (s := s) (S := S) h0 n (S 1 s 7) h7
      unfold frpS
      exact (((xts.rf.up4 (by omega)).up4 (by omega)).up1).up1
    · exact absurd (by rw [show n = 0 by omega]; rfl) c
theorem useS_fr {s n b : Nat} {S : xS} (hn : n ≤ 8) (hb : b < 32) (hh : 0 ≤ S 10 (32 * s + b) 8 ∧ S 10 (32 * s + b) 8 < n) : xts s (useS s n (32 * s + b) S) S := by
  unfold useS
  split
  · unfold usdS
    exact (((xts.rf.up4 (by omega)).up4 (by omega)).up10 hb).up1
  · split
    · rename_i q hq
      have hl := hbdS_lt hq
      unfold sltS slcS
      exact (((((((xts.rf.up4 (by omega)).up4 (by omega)).up4 (by omega)).up4 (by omega)).up4 (by omega)).up4 (by omega)).up10 hb).up1
    · unfold wstS pnlS
      exact ((((xts.rf.up4 (by omega)).up4 (by omega)).up1).up10 hb).up1
theorem actS_fr {s n N : Nat} {T : Int} {S : xS} (h : VS s n N T S) : xts s (actS s n N S) S := by
  obtain ⟨hV, h2, h3, h4, h5, h6, h7⟩ := h
  unfold actS
  cases hb : bstT s S N with
  | none => exact freS_fr h3 (by unfold GQ at h4; omega)
  | some b =>
    have hl := bstT_lt hb
    refine (useS_fr h3 (by omega) ?_).tr (xts.rf.up10 (by omega))
    have h9 := h6 b hl.1
    unfold OQ at h9
    unfold decT
    show 0 ≤ up S 10 _ 6 _ 10 _ 8 ∧ up S 10 _ 6 _ 10 _ 8 < _
    rw [up_f (by decide)]
    exact h9.2.1 hl.2
theorem endS_fr {s N : Nat} {S : xS} (hN : N ≤ 32) : xts s (endS s N S) S := (groT_fr hN).ts.up1
theorem tckS_fr {s n N : Nat} {T : Int} {S : xS} (h : VS s n N T S) : xts s (tckS s n N S) S := (endS_fr (by have := h.2.1; omega)).tr ((actS_fr (h.arr (i := n)).rel).tr ((relT_fr (by have := h.2.1; omega)).ts.tr (arrS_fr h.2.2.1)))

