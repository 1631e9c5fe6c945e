/-! what the class does, as functions on the store; stores that look alike -/
def xeq (S1 S2 : xS) : Prop := (∀ k j, k ≠ 4 → k ≠ 10 → S1 k j = S2 k j) ∧ (∀ j f, f < 11 → S1 4 j f = S2 4 j f) ∧ ∀ j f, f < 17 → S1 10 j f = S2 10 j f
theorem xeq.ce {S1 S2 : xS} (h : xeq S1 S2) (w : xW) (k j : Nat) : xce w k j (S1 k j) = xce w k j (S2 k j) := by
  by_cases h4 : k = 4
  · subst h4
    simp only [xce, xf, h.2.1 j 0 (by decide), h.2.1 j 1 (by decide), h.2.1 j 2 (by decide), h.2.1 j 3 (by decide), h.2.1 j 4 (by decide), h.2.1 j 5 (by decide), h.2.1 j 6 (by decide), h.2.1 j 7 (by decide), h.2.1 j 8 (by decide), h.2.1 j 9 (by decide), h.2.1 j 10 (by decide)]
  · by_cases h10 : k = 10
    · subst h10
      simp only [xce, xf, h.2.2 j 0 (by decide), h.2.2 j 1 (by decide), h.2.2 j 2 (by decide), h.2.2 j 3 (by decide), h.2.2 j 4 (by decide), h.2.2 j 5 (by decide), h.2.2 j 6 (by decide), h.2.2 j 7 (by decide), h.2.2 j 8 (by decide), h.2.2 j 9 (by decide), h.2.2 j 10 (by decide), h.2.2 j 11 (by decide), h.2.2 j 12 (by decide), h.2.2 j 13 (by decide), h.2.2 j 14 (by decide), h.2.2 j 15 (by decide), h.2.2 j 16 (by decide)]
    · rw [h.1 k j h4 h10]
theorem xeq.wl {S1 S2 : xS} (h : xeq S1 S2) (w : xW) : xwl w S1 = xwl w S2 := by
  unfold xwl
  refine List.map_congr_left (fun q _ => ?_)
  rw [h.ce]
theorem xeq.rep {S1 S2 : xS} {w : xW} {H : Heap} (h : xeq S1 S2) (hW : xWR S1) (hR : xRep w S2 H) : xRep w S1 H := by
  obtain ⟨h1, h2, -⟩ := hR
  rw [← h.wl w] at h1 h2
  exact ⟨h1, h2, hW⟩
/-- a store out of two good ones -/
theorem xWR.mix {S S1 S2 : xS} (h1 : xWR S1) (h2 : xWR S2) (h : ∀ k j f, S k j f = S1 k j f ∨ (∃ j', S k j f = S2 k j' f) ∨ xlng k f = false ∧ xr (S k j f)) : xWR S := by
  refine ⟨fun k j f => ?_, fun k j f hl => ?_⟩
  · rcases h k j f with e | ⟨j', e⟩ | ⟨e, q⟩
    · rw [e]; exact h1.1 k j f
    · rw [e]; exact h2.1 k j' f
    · omega
  · rcases h k j f with e | ⟨j', e⟩ | ⟨e, q⟩
    · rw [e]; exact h1.2 k j f hl
    · rw [e]; exact h2.2 k j' f hl
    · exact q
theorem K.eqv {w : xW} {mi : xM} {y : MethodName} {k n : Nat} {as : List xV} {S : xS} {A A2 : Option xV → xS → Prop} {B : String → xS → Prop} (h : K w mi y k n as S A2 B) (hA : ∀ v S', A2 v S' → ∃ S2, xeq S2 S' ∧ (∀ k j f, S2 k j f = S' k j f ∨ (∃ j', S2 k j f = S k j' f) ∨ xlng k f = false ∧ xr (S2 k j f)) ∧ A v S2) : K w mi y k n as S A B := by
  intro l hf hok
  refine MetFree.mono (h l hf hok) (fun a s hp => hp) (fun _ _ _ _ _ hk => hk) (fun a st o t hp hq => ?_)
  rcases hq with ⟨⟨⟨v, S', h1, h2, h3, h4⟩, hF⟩, hL⟩ | ⟨q, h1, E, ce, L, ⟨⟨S', h3, h4⟩, hF⟩, h5⟩
  · obtain ⟨S2, g1, g2, g3⟩ := hA v S' h3
    exact Or.inl ⟨⟨⟨v, S2, h1, h2, g3, g1.rep (xWR.mix h4.2.2 hp.2.1.2.2 g2) h4⟩, hF⟩, hL⟩
  · exact Or.inr ⟨q, h1, E, ce, L, ⟨⟨S', h3, h4⟩, hF⟩, h5⟩
/-! the timeline -/
def relT (t N : Nat) (S : xS) : xS := fun k j f => if k = 10 ∧ 32 * t ≤ j ∧ j < 32 * t + N ∧ S 10 j 0 = 0 ∧ S 10 j 5 = S 2 t 2 then xrel (S 10 j) f else S k j f
def bstT (t : Nat) (S : xS) : Nat → Option Nat
  | 0 => none
  | i + 1 => if 0 < S 10 (32 * t + i) 6 then (match bstT t S i with | none => some i | some b => if S 10 (32 * t + i) 7 < S 10 (32 * t + b) 7 then some i else some b) else bstT t S i
def decT (t : Nat) (b : Option Nat) (S : xS) : xS := match b with | none => S | some b => up S 10 (32 * t + b) 6 (S 10 (32 * t + b) 6 - 1)
def choT (t N : Nat) (S : xS) : xS := decT t (bstT t S N) S
def groT (t N : Nat) (S : xS) : xS := fun k j f => if k = 2 ∧ j = t ∧ f = 2 then S 2 t 2 + 1 else if k = 10 ∧ 32 * t ≤ j ∧ j < 32 * t + N then xmis (S 2 t 2 + 1) (S 10 j) f else S k j f
def misT (t N : Nat) (S : xS) : Int := sm (fun j => b2i (0 < S 10 (32 * t + j) 6 ∧ S 10 (32 * t + j) 7 ≤ S 2 t 2 + 1)) N
def tckT (t N : Nat) (S : xS) : xS := groT t N (choT t N (relT t N S))
def okT (u N : Nat) : Nat → xS → Bool
  | 0, _ => true
  | n + 1, S => decide (misT u N (choT u N (relT u N S)) = 0) && okT u N n (tckT u N S)
def freT (u N : Nat) : Nat → xS → Int
  | 0, _ => 0
  | n + 1, S => (if bstT u (relT u N S) N = none then 1 else 0) + freT u N n (tckT u N S)
def cpyT (t u N : Nat) (S : xS) : xS := fun k j f => if k = 2 ∧ j = u ∧ f = 1 then S 2 t 1 else if k = 2 ∧ j = u ∧ f = 2 then S 2 t 2 else if k = 10 ∧ 32 * u ≤ j ∧ j < 32 * u + N then S 10 (32 * t + (j - 32 * u)) f else S k j f
def addT (u N : Nat) (o p b d : Int) (S : xS) : xS := fun k j f => if k = 2 ∧ j = u ∧ f = 1 then (N : Int) + 1 else if k = 10 ∧ j = 32 * u + N then xbeg o p b d (S 2 u 2) f else S k j f
def cycT (u N : Nat) (S : xS) : Int := sm (fun j => if S 10 (32 * u + j) 0 = 0 then xtic (S 10 (32 * u + j)) else 0) N
def accF (t u N : Nat) (p b d : Int) (S : xS) : Bool := decide (cycT u (N + 1) (addT u N (-1) p b d (cpyT t u N S)) ≤ 120) && okT u (N + 1) 360 (addT u N (-1) p b d (cpyT t u N S))
/-- nothing but the timeline u has changed -/
def xtl (u : Nat) (S' S : xS) : Prop := ∀ x y, ¬ (x = 2 ∧ y = u) → ¬ (x = 10 ∧ 32 * u ≤ y ∧ y < 32 * u + 32) → S' x y = S x y
theorem xtl.rf {u : Nat} {S : xS} : xtl u S S := fun _ _ _ _ => rfl
theorem xtl.tr {u : Nat} {S1 S2 S3 : xS} (h : xtl u S3 S2) (g : xtl u S2 S1) : xtl u S3 S1 := fun x y h1 h2 => (h x y h1 h2).trans (g x y h1 h2)
theorem bstT_bsg (t : Nat) (S : xS) : ∀ i, bsg (fun j => 0 < S 10 (32 * t + j) 6) (fun a b => S 10 (32 * t + a) 7 < S 10 (32 * t + b) 7) i (bstT t S i)
  | 0 => rfl
  | i + 1 => by
    refine ⟨bstT t S i, bstT_bsg t S i, ?_⟩
    by_cases h : 0 < S 10 (32 * t + i) 6
    · cases hb : bstT t S i with
      | none => exact Or.inr (Or.inl ⟨h, rfl, by rw [bstT, if_pos h, hb]⟩)
      | some b =>
        refine Or.inr (Or.inr ⟨h, b, rfl, ?_⟩)
        by_cases h2 : S 10 (32 * t + i) 7 < S 10 (32 * t + b) 7
        · exact Or.inl ⟨h2, by rw [bstT, if_pos h, hb]; show (if _ then _ else _) = _; rw [if_pos h2]⟩
        · exact Or.inr ⟨h2, by rw [bstT, if_pos h, hb]; show (if _ then _ else _) = _; rw [if_neg h2]⟩
    · exact Or.inl ⟨h, by rw [bstT, if_neg h]⟩
theorem bstT_eq {t N : Nat} {S : xS} {r : Option Nat} (h : bsg (fun j => 0 < S 10 (32 * t + j) 6) (fun a b => S 10 (32 * t + a) 7 < S 10 (32 * t + b) 7) N r) : bstT t S N = r := bsg.fn (bstT_bsg t S N) h
theorem bstT_lt {t N b : Nat} {S : xS} (h : bstT t S N = some b) : b < N ∧ 0 < S 10 (32 * t + b) 6 := by
  have h1 := bstT_bsg t S N
  rw [h] at h1
  exact h1.lt
/-! frames -/
theorem relT_fr {t N : Nat} {S : xS} (hN : N ≤ 32) : xtl t (relT t N S) S := by
  intro x y h1 h2
  funext f
  unfold relT
  rw [if_neg (by omega)]
theorem choT_fr {t N : Nat} {S : xS} (hN : N ≤ 32) : xtl t (choT t N S) S := by
  intro x y h1 h2
  unfold choT decT
  cases hb : bstT t S N with
  | none => rfl
  | some b => have := bstT_lt hb; exact up_oth (by omega)
theorem groT_fr {t N : Nat} {S : xS} (hN : N ≤ 32) : xtl t (groT t N S) S := by
  intro x y h1 h2
  funext f
  unfold groT
  rw [if_neg (by omega), if_neg (by omega)]
theorem tckT_fr {t N : Nat} {S : xS} (hN : N ≤ 32) : xtl t (tckT t N S) S := (groT_fr hN).tr ((choT_fr hN).tr (relT_fr hN))
theorem cpyT_fr {t u N : Nat} {S : xS} (hN : N ≤ 32) : xtl u (cpyT t u N S) S := by
  intro x y h1 h2
  funext f
  unfold cpyT
  rw [if_neg (by omega), if_neg (by omega), if_neg (by omega)]
theorem addT_fr {u N : Nat} {o p b d : Int} {S : xS} (hN : N < 32) : xtl u (addT u N o p b d S) S := by
  intro x y h1 h2
  funext f
  unfold addT
  rw [if_neg (by omega), if_neg (by omega)]
/-! what holds of the rows -/
def TQ (t T : Int) (F : Nat → Int) : Prop := (F 0 = 0 ∨ F 0 = 1) ∧ (1 ≤ F 2 ∧ F 2 ≤ 120) ∧ (1 ≤ F 3 ∧ F 3 ≤ 120) ∧ (1 ≤ F 4 ∧ F 4 ≤ 120) ∧ (-1 ≤ F 5 ∧ F 5 ≤ t + 120) ∧ (0 ≤ F 6 ∧ F 6 ≤ 120) ∧ (-1 ≤ F 7 ∧ F 7 ≤ t + 120) ∧ (0 ≤ F 15 ∧ F 15 ≤ T) ∧ (0 ≤ F 16 ∧ F 16 ≤ T) ∧ (0 < F 6 → F 0 = 0)
def VT (t N : Nat) (T : Int) (S : xS) : Prop := S 2 t 1 = (N : Int) ∧ N ≤ 21 ∧ (0 ≤ S 2 t 2 ∧ S 2 t 2 ≤ T) ∧ ∀ j, j < N → TQ (S 2 t 2) T (S 10 (32 * t + j))
theorem TQ.rel {t T : Int} {F : Nat → Int} (h : TQ t T F) (h0 : 0 ≤ t) (h1 : F 0 = 0) (h5 : F 5 = t) : TQ t (T + 1) (xrel F) := by
  unfold TQ at h ⊢
  have e0 : xrel F 0 = F 0 := rfl
  have e2 : xrel F 2 = F 2 := rfl
  have e3 : xrel F 3 = F 3 := rfl
  have e4 : xrel F 4 = F 4 := rfl
  have e5 : xrel F 5 = F 5 + F 2 := rfl
  have e6 : xrel F 6 = F 3 := rfl
  have e7 : xrel F 7 = F 5 + F 4 := rfl
  have e15 : xrel F 15 = F 15 + 1 := rfl
  have e16 : xrel F 16 = F 16 := rfl
  rw [e0, e2, e3, e4, e5, e6, e7, e15, e16]
  omega
theorem TQ.mono {t T t' T' : Int} {F : Nat → Int} (h : TQ t T F) (h1 : t ≤ t') (h2 : T ≤ T') : TQ t' T' F := by
  unfold TQ at h ⊢
  omega
theorem TQ.mis {t T : Int} {F : Nat → Int} (h : TQ t T F) : TQ (t + 1) (T + 1) (xmis (t + 1) F) := by
  by_cases c : 0 < F 6 ∧ F 7 ≤ t + 1
  · have e : ∀ f, xmis (t + 1) F f = if f = 6 then 0 else if f = 16 then F 16 + 1 else F f := fun f => by unfold xmis; rw [if_pos c]
    have e6 : xmis (t + 1) F 6 = 0 := by rw [e 6, if_pos rfl]
    have e16 : xmis (t + 1) F 16 = F 16 + 1 := by rw [e 16, if_neg (by decide), if_pos rfl]
    have eo : ∀ f, f ≠ 6 → f ≠ 16 → xmis (t + 1) F f = F f := fun f h1 h2 => by rw [e f, if_neg h1, if_neg h2]
    unfold TQ at h ⊢
    rw [eo 0 (by decide) (by decide), eo 2 (by decide) (by decide), eo 3 (by decide) (by decide), eo 4 (by decide) (by decide), eo 5 (by decide) (by decide), e6, eo 7 (by decide) (by decide), eo 15 (by decide) (by decide), e16]
    omega
  · have e : xmis (t + 1) F = F := by funext f; unfold xmis; rw [if_neg c]
    rw [e]
    exact h.mono (by omega) (by omega)
theorem VT.rel {t N : Nat} {T : Int} {S : xS} (h : VT t N T S) : VT t N (T + 1) (relT t N S) := by
  obtain ⟨h1, h2, h3, h4⟩ := h
  have e2 : relT t N S 2 t = S 2 t := by funext f; unfold relT; rw [if_neg (by omega)]
  refine ⟨by rw [e2]; exact h1, h2, by rw [e2]; omega, fun j hj => ?_⟩
  rw [e2]
  by_cases c : S 10 (32 * t + j) 0 = 0 ∧ S 10 (32 * t + j) 5 = S 2 t 2
  · have e : relT t N S 10 (32 * t + j) = xrel (S 10 (32 * t + j)) := by funext f; unfold relT; rw [if_pos ⟨rfl, by omega, by omega, c⟩]
    rw [e]
    exact (h4 j hj).rel h3.1 c.1 c.2
  · have e : relT t N S 10 (32 * t + j) = S 10 (32 * t + j) := by funext f; unfold relT; rw [if_neg (fun z => c z.2.2.2)]
    rw [e]
    exact (h4 j hj).mono (by omega) (by omega)
theorem TQ.dec {t T : Int} {F : Nat → Int} (h : TQ t T F) (h0 : 0 < F 6) : TQ t T (fun f => if f = 6 then F 6 - 1 else F f) := by
  unfold TQ at h ⊢
  simp (decide := true) only [if_true, if_false]
  omega
theorem VT.cho {t N : Nat} {T : Int} {S : xS} (h : VT t N T S) : VT t N T (choT t N S) := by
  obtain ⟨h1, h2, h3, h4⟩ := h
  unfold choT decT
  cases hb : bstT t S N with
  | none => exact ⟨h1, h2, h3, h4⟩
  | some b =>
    have hl := bstT_lt hb
    have e2 : ∀ v, up S 10 (32 * t + b) 6 v 2 t = S 2 t := fun v => up_oth (by omega)
    refine ⟨by show up _ _ _ _ _ 2 t 1 = _; rw [e2]; exact h1, h2, by show 0 ≤ up _ _ _ _ _ 2 t 2 ∧ up _ _ _ _ _ 2 t 2 ≤ _; rw [e2]; exact h3, fun j hj => ?_⟩
    show TQ (up _ _ _ _ _ 2 t 2) T (up _ _ _ _ _ 10 (32 * t + j))
    rw [e2]
    by_cases e : j = b
    · subst e
      rw [up_row]
      exact (h4 j hj).dec hl.2
    · rw [up_oth (by omega)]
      exact h4 j hj
theorem VT.gro {t N : Nat} {T : Int} {S : xS} (h : VT t N T S) : VT t N (T + 1) (groT t N S) := by
  obtain ⟨h1, h2, h3, h4⟩ := h
  have e1 : groT t N S 2 t 1 = S 2 t 1 := by unfold groT; rw [if_neg (by omega), if_neg (by omega)]
  have e2 : groT t N S 2 t 2 = S 2 t 2 + 1 := by unfold groT; rw [if_pos ⟨rfl, rfl, rfl⟩]
  refine ⟨by rw [e1]; exact h1, h2, by rw [e2]; omega, fun j hj => ?_⟩
  have e : groT t N S 10 (32 * t + j) = xmis (S 2 t 2 + 1) (S 10 (32 * t + j)) := by funext f; unfold groT; rw [if_neg (by omega), if_pos ⟨rfl, by omega, by omega⟩]
  rw [e2, e]
  exact (h4 j hj).mis
theorem VT.tck {t N : Nat} {T : Int} {S : xS} (h : VT t N T S) : VT t N (T + 2) (tckT t N S) := by
  have h9 := h.rel.cho.gro
  rw [Int.add_assoc] at h9
  exact h9
theorem VT.cpy {t u N : Nat} {T : Int} {S : xS} (h : VT t N T S) : VT u N T (cpyT t u N S) := by
  obtain ⟨h1, h2, h3, h4⟩ := h
  have e1 : cpyT t u N S 2 u 1 = S 2 t 1 := by unfold cpyT; rw [if_pos ⟨rfl, rfl, rfl⟩]
  have e2 : cpyT t u N S 2 u 2 = S 2 t 2 := by unfold cpyT; rw [if_neg (by omega), if_pos ⟨rfl, rfl, rfl⟩]
  refine ⟨by rw [e1]; exact h1, h2, by rw [e2]; exact h3, fun j hj => ?_⟩
  have e : cpyT t u N S 10 (32 * u + j) = S 10 (32 * t + j) := by
    funext f
    unfold cpyT
    rw [if_neg (by omega), if_neg (by omega), if_pos ⟨rfl, by omega, by omega⟩, Nat.add_sub_cancel_left]
  rw [e2, e]
  exact h4 j hj
theorem VT.add {u N : Nat} {T o p b d : Int} {S : xS} (h : VT u N T S) (hN : N < 21) (hp : 1 ≤ p ∧ p ≤ 120) (hb : 1 ≤ b ∧ b ≤ 120) (hd : 1 ≤ d ∧ d ≤ 120) : VT u (N + 1) T (addT u N o p b d S) := by
  obtain ⟨h1, h2, h3, h4⟩ := h
  have e1 : addT u N o p b d S 2 u 1 = (N : Int) + 1 := by unfold addT; rw [if_pos ⟨rfl, rfl, rfl⟩]
  have e2 : addT u N o p b d S 2 u 2 = S 2 u 2 := by unfold addT; rw [if_neg (by omega), if_neg (by omega)]
  refine ⟨by rw [e1]; omega, by omega, by rw [e2]; exact h3, fun j hj => ?_⟩
  rw [e2]
  by_cases c : j = N
  · subst c
    have e : addT u j o p b d S 10 (32 * u + j) = xbeg o p b d (S 2 u 2) := by funext f; unfold addT; rw [if_neg (by omega), if_pos ⟨rfl, rfl⟩]
    rw [e]
    have q0 : xbeg o p b d (S 2 u 2) 0 = 0 := rfl
    have q2 : xbeg o p b d (S 2 u 2) 2 = p := rfl
    have q3 : xbeg o p b d (S 2 u 2) 3 = b := rfl
    have q4 : xbeg o p b d (S 2 u 2) 4 = d := rfl
    have q5 : xbeg o p b d (S 2 u 2) 5 = S 2 u 2 := rfl
    have q6 : xbeg o p b d (S 2 u 2) 6 = 0 := rfl
    have q7 : xbeg o p b d (S 2 u 2) 7 = -1 := rfl
    have q15 : xbeg o p b d (S 2 u 2) 15 = 0 := rfl
    have q16 : xbeg o p b d (S 2 u 2) 16 = 0 := rfl
    unfold TQ
    rw [q0, q2, q3, q4, q5, q6, q7, q15, q16]
    omega
  · have e : addT u N o p b d S 10 (32 * u + j) = S 10 (32 * u + j) := by funext f; unfold addT; rw [if_neg (by omega), if_neg (by omega)]
    rw [e]
    exact h4 j (by omega)
/-! the contracts, with functions -/
section FT
variable {w : xW} {S : xS} {B : String → xS → Prop}
theorem f_X5_releaseJobs {A : xS → Prop} {t N : Nat} {T : Int} (hV : VT t N T S) (hT : T ≤ 1000000) (hq : A (relT t N S)) : Kv w mX5_releaseJobs yX5_releaseJobs 0 0 [xp 2 t] S A B := by
  obtain ⟨h1, h2, h3, h4⟩ := hV
  refine K.eqv (k_X5_releaseJobs (A := fun S' => xmp 10 (32 * t) N 17 (fun j => if S 10 (32 * t + j) 0 = 0 ∧ S 10 (32 * t + j) 5 = S 2 t 2 then xrel (S 10 (32 * t + j)) else S 10 (32 * t + j)) S' S) h1 h2 (fun j hj h0 => ?_) (fun S' h => h)) (fun v S' h => ⟨relT t N S, ?_, ?_, h.1, hq⟩)
  · have := h4 j hj; unfold TQ at this; omega
  · obtain ⟨-, hr, ho⟩ := h
    refine ⟨fun k j k4 k10 => ?_, fun j f hf => ?_, fun j f hf => ?_⟩
    · rw [ho k j (by omega)]; funext f; unfold relT; rw [if_neg (by omega)]
    · rw [ho 4 j (by omega)]; unfold relT; rw [if_neg (by omega)]
    · by_cases c : 32 * t ≤ j ∧ j < 32 * t + N
      · obtain ⟨i, rfl⟩ : ∃ i, j = 32 * t + i := ⟨j - 32 * t, by omega⟩
        rw [hr i (by omega) f hf]
        dsimp only
        unfold relT
        by_cases c2 : S 10 (32 * t + i) 0 = 0 ∧ S 10 (32 * t + i) 5 = S 2 t 2
        · rw [if_pos ⟨rfl, by omega, by omega, c2⟩, if_pos c2]
        · rw [if_neg (fun z => c2 z.2.2.2), if_neg c2]
      · rw [ho 10 j (by omega)]; unfold relT; rw [if_neg (by omega)]
  · intro k j f
    obtain ⟨-, hr, ho⟩ := h
    by_cases c : k = 10 ∧ 32 * t ≤ j ∧ j < 32 * t + N ∧ S 10 j 0 = 0 ∧ S 10 j 5 = S 2 t 2
    · by_cases hf : f < 17
      · obtain ⟨rfl, c1, c2, c3⟩ := c
        obtain ⟨i, rfl⟩ : ∃ i, j = 32 * t + i := ⟨j - 32 * t, by omega⟩
        left
        rw [hr i (by omega) f hf]
        dsimp only
        rw [if_pos c3]
        unfold relT
        rw [if_pos ⟨rfl, c1, c2, c3⟩]
      · right; left; refine ⟨j, ?_⟩
        unfold relT
        rw [if_pos c, c.1]
        unfold xrel
        repeat rw [if_neg (by omega)]
    · right; left; refine ⟨j, ?_⟩
      unfold relT
      rw [if_neg c]
theorem f_X5_chooseJob {A : xV → xS → Prop} {t N : Nat} {T : Int} (hV : VT t N T S) (hq0 : bstT t S N = none → A (xv .null) S) (hq1 : ∀ b, b < N → bstT t S N = some b → A (xp 10 (32 * t + b)) (choT t N S)) : Ko w mX5_chooseJob yX5_chooseJob 0 0 [xp 2 t] S A B := by
  obtain ⟨h1, h2, h3, h4⟩ := hV
  refine k_X5_chooseJob h1 h2 (fun h => hq0 (bstT_eq h)) (fun b hb h => ?_)
  have e := bstT_eq h
  have h9 := hq1 b hb e
  unfold choT decT at h9
  rw [e] at h9
  exact h9
theorem f_X5_growTime {A : Int → xS → Prop} {t N : Nat} {T : Int} (hV : VT t N T S) (hT : T ≤ 1000000) (hq : A (misT t N S) (groT t N S)) : Ki w mX5_growTime yX5_growTime 0 0 [xp 2 t] S A B := by
  obtain ⟨h1, h2, h3, h4⟩ := hV
  refine K.eqv (k_X5_growTime (A := fun a S' => a = misT t N S ∧ xmp 10 (32 * t) N 17 (fun j => xmis (S 2 t 2 + 1) (S 10 (32 * t + j))) S' (up S 2 t 2 (S 2 t 2 + 1))) h1 h2 (by omega) (fun j hj => ?_) (fun S' h => ⟨rfl, h⟩)) (fun v S' h => ⟨groT t N S, ?_, ?_, ?_⟩)
  · have := h4 j hj; unfold TQ at this; omega
  · obtain ⟨a, -, -, hr, ho⟩ := h
    refine ⟨fun k j k4 k10 => ?_, fun j f hf => ?_, fun j f hf => ?_⟩
    · rw [ho k j (by omega)]; funext f; unfold groT up
      by_cases c : k = 2 ∧ j = t ∧ f = 2
      · rw [if_pos c, if_pos c]
      · rw [if_neg c, if_neg c, if_neg (by omega)]
    · rw [ho 4 j (by omega), up_k (by decide)]; unfold groT; rw [if_neg (by omega), if_neg (by omega)]
    · by_cases c : 32 * t ≤ j ∧ j < 32 * t + N
      · obtain ⟨i, rfl⟩ : ∃ i, j = 32 * t + i := ⟨j - 32 * t, by omega⟩
        rw [hr i (by omega) f hf]
        unfold groT
        rw [if_neg (by omega), if_pos ⟨rfl, by omega, by omega⟩]
      · rw [ho 10 j (by omega), up_k (by decide)]; unfold groT; rw [if_neg (by omega), if_neg (by omega)]
  · intro k j f
    obtain ⟨a, -, -, hr, ho⟩ := h
    by_cases c1 : k = 2 ∧ j = t ∧ f = 2
    · right; right
      unfold groT
      rw [if_pos c1, c1.1]
      exact ⟨rfl, by omega⟩
    · by_cases c : k = 10 ∧ 32 * t ≤ j ∧ j < 32 * t + N
      · by_cases hf : f < 17
        · obtain ⟨rfl, c1, c2⟩ := c
          obtain ⟨i, rfl⟩ : ∃ i, j = 32 * t + i := ⟨j - 32 * t, by omega⟩
          left
          rw [hr i (by omega) f hf]
          unfold groT
          rw [if_neg (by omega), if_pos ⟨rfl, c1, c2⟩]
        · right; left; refine ⟨j, ?_⟩
          unfold groT
          rw [if_neg c1, if_pos c, c.1]
          unfold xmis
          rw [if_neg (show ¬ f = 6 by omega), if_neg (show ¬ f = 16 by omega)]
          split <;> rfl
      · right; left; refine ⟨j, ?_⟩
        unfold groT
        rw [if_neg c1, if_neg c]
  · obtain ⟨a, e, e2, -⟩ := h
    exact ⟨a, e, by rw [e2]; exact hq⟩
theorem f_X5_copyFrom {A : xS → Prop} {t u N : Nat} {T : Int} (htu : t ≠ u) (hV : VT t N T S) (hT : T ≤ 1000000) (hq : A (cpyT t u N S)) : Kv w mX5_copyFrom yX5_copyFrom 0 0 [xp 2 u, xp 2 t] S A B := by
  obtain ⟨h1, h2, h3, h4⟩ := hV
  refine K.eqv (k_X5_copyFrom (A := fun S' => xmp 10 (32 * u) N 17 (fun j => S 10 (32 * t + j)) S' (up (up S 2 u 1 (S 2 t 1)) 2 u 2 (S 2 t 2))) (Ne.symm htu) h1 h2 (fun j hj => ?_) (fun S' h => h)) (fun v S' h => ⟨cpyT t u N S, ?_, ?_, h.1, hq⟩)
  · have := h4 j hj; unfold TQ at this; omega
  · obtain ⟨-, hr, ho⟩ := h
    refine ⟨fun k j k4 k10 => ?_, fun j f hf => ?_, fun j f hf => ?_⟩
    · rw [ho k j (by omega)]; funext f; unfold cpyT up
      by_cases c : k = 2 ∧ j = u ∧ f = 1
      · rw [if_pos c, if_neg (by omega), if_pos c]
      · rw [if_neg c]
        by_cases c2 : k = 2 ∧ j = u ∧ f = 2
        · rw [if_pos c2, if_pos c2]
        · rw [if_neg c2, if_neg c2, if_neg c, if_neg (by omega)]
    · rw [ho 4 j (by omega), up_k (by decide), up_k (by decide)]; unfold cpyT; rw [if_neg (by omega), if_neg (by omega), if_neg (by omega)]
    · by_cases c : 32 * u ≤ j ∧ j < 32 * u + N
      · obtain ⟨i, rfl⟩ : ∃ i, j = 32 * u + i := ⟨j - 32 * u, by omega⟩
        rw [hr i (by omega) f hf]
        unfold cpyT
        rw [if_neg (by omega), if_neg (by omega), if_pos ⟨rfl, by omega, by omega⟩, Nat.add_sub_cancel_left]
      · rw [ho 10 j (by omega), up_k (by decide), up_k (by decide)]; unfold cpyT; rw [if_neg (by omega), if_neg (by omega), if_neg (by omega)]
  · intro k j f
    obtain ⟨-, hr, ho⟩ := h
    by_cases c1 : k = 2 ∧ j = u
    · left
      rw [ho k j (by omega)]
      obtain ⟨rfl, rfl⟩ := c1
      unfold cpyT up
      by_cases c : f = 1
      · subst c; rw [if_pos ⟨rfl, rfl, rfl⟩, if_neg (by omega), if_pos ⟨rfl, rfl, rfl⟩]
      · rw [if_neg (by omega)]
        by_cases c2 : f = 2
        · subst c2; rw [if_pos ⟨rfl, rfl, rfl⟩, if_pos ⟨rfl, rfl, rfl⟩]
        · rw [if_neg (by omega), if_neg (by omega), if_neg (by omega), if_neg (by omega)]
    · by_cases c : k = 10 ∧ 32 * u ≤ j ∧ j < 32 * u + N
      · by_cases hf : f < 17
        · obtain ⟨rfl, c1, c2⟩ := c
          obtain ⟨i, rfl⟩ : ∃ i, j = 32 * u + i := ⟨j - 32 * u, by omega⟩
          left
          rw [hr i (by omega) f hf]
          unfold cpyT
          rw [if_neg (by omega), if_neg (by omega), if_pos ⟨rfl, c1, c2⟩, Nat.add_sub_cancel_left]
        · right; left; refine ⟨32 * t + (j - 32 * u), ?_⟩
          unfold cpyT
          rw [if_neg (by omega), if_neg (by omega), if_pos c, c.1]
      · right; left; refine ⟨j, ?_⟩
        unfold cpyT
        rw [if_neg (by omega), if_neg (by omega), if_neg c]
end FT

