/-! the places of the objects -/
/-! the places of the objects, and what stands in them at the end -/
def zsB (b s : Nat) : Nat := if s = 0 then b + 1 else if s = 1 then b + 36 else if s = 2 then b + 72 else if s = 3 then b + 107 else b + 191
def ztB (b t : Nat) : Nat := if t < 5 then zsB b t + 1 else if t = 5 then b + 143 else if t = 6 then b + 166 else b + 226
def zad (b k j : Nat) : Nat := if k = 0 then b else if k = 1 then zsB b j else if k = 2 then ztB b j else if k = 23 then ztB b j + 1 else if k = 10 then ztB b (j / 32) + 2 + j % 32 else if k = 22 then zsB b j + 24 else if k = 5 then zsB b j + 25 else if k = 25 then zsB b j + 26 else if k = 4 then zsB b (j / 8) + 27 + j % 8 else if k = 20 then b + 71 else if k = 21 then b + 142 else if k = 3 then b + 189 else if k = 24 then b + 190 else if k = 30 then b - 1 else b + 218 + k
def zPl (w : xW) (b : Nat) : Prop := ∀ k j, k < 50 → w.1 k j = zad b k j
theorem zad_10 {b t f : Nat} (hf : f < 21) : zad b 10 (32 * t + f) = ztB b t + 2 + f := by
  show ztB b ((32 * t + f) / 32) + 2 + (32 * t + f) % 32 = _
  rw [show (32 * t + f) / 32 = t by omega, show (32 * t + f) % 32 = f by omega]
theorem zad_4 {b s f : Nat} (hf : f < 8) : zad b 4 (8 * s + f) = zsB b s + 27 + f := by
  show zsB b ((8 * s + f) / 8) + 27 + (8 * s + f) % 8 = _
  rw [show (8 * s + f) / 8 = s by omega, show (8 * s + f) % 8 = f by omega]
theorem ztB_s {b s : Nat} (h : s < 5) : ztB b s = zsB b s + 1 := by unfold ztB; rw [if_pos h]
theorem Z.fresh {w : xW} {qq : Prop} {mi : xM} {TG : xT} {k n pc : Nat} {L st : List xV} {D : zD} {E : zE} {z : Nat} (h : (∀ x y, z ≤ w.1 x y → (x, y) ∉ D) → Z w qq mi TG k n pc L st D E z) : Z w qq mi TG k n pc L st D E z := by
  intro p l e R s m args below meth c H locs cells slots MC MS ls hC hB hR
  refine h (fun x y hxy hm => ?_) p l e R s m args below meth c H locs cells slots MC MS ls hC hB hR
  obtain ⟨i, -, hi⟩ := zwl_in (w := w) (E := E) hm
  have h1 := (hR.1.1 i _ hi).lt
  have h2 := hR.1.2.2.2
  show False
  have h3 : w.1 x y < H.size := h1
  omega
theorem zTq_of {w : xW} {b t : Nat} {D : zD} (hw : zPl w b) (ht : t < 8) (hf : ∀ x y, ztB b t + 1 ≤ w.1 x y → (x, y) ∉ D) : zTq w t (ztB b t + 1) D := by
  have e1 : w.1 23 t = ztB b t + 1 := hw 23 t (by decide)
  have e2 : ∀ f, f < 21 → w.1 10 (32 * t + f) = ztB b t + 1 + 1 + f := fun f h => by rw [hw 10 _ (by decide), zad_10 h]
  exact ⟨ht, hf _ _ (by omega), fun f h => hf _ _ (by have := e2 f h; omega), e1, e2⟩
theorem zSq_of {w : xW} {b s : Nat} {D : zD} (hw : zPl w b) (hs : s < 5) (hf : ∀ x y, zsB b s + 1 ≤ w.1 x y → (x, y) ∉ D) : zSq w s (zsB b s + 1) D := by
  have e2 : w.1 2 s = zsB b s + 1 := (hw 2 s (by decide)).trans (ztB_s hs)
  have e23 : w.1 23 s = zsB b s + 1 + 1 := by rw [hw 23 s (by decide)]; show ztB b s + 1 = _; rw [ztB_s hs]
  have e10 : ∀ f, f < 21 → w.1 10 (32 * s + f) = zsB b s + 1 + 2 + f := fun f h => by rw [hw 10 _ (by decide), zad_10 h, ztB_s hs]
  have e22 : w.1 22 s = zsB b s + 1 + 23 := hw 22 s (by decide)
  have e5 : w.1 5 s = zsB b s + 1 + 24 := hw 5 s (by decide)
  have e25 : w.1 25 s = zsB b s + 1 + 25 := hw 25 s (by decide)
  have e4 : ∀ f, f < 8 → w.1 4 (8 * s + f) = zsB b s + 1 + 26 + f := fun f h => by rw [hw 4 _ (by decide), zad_4 h]
  refine ⟨hs, fun k j hm hz => hf k j ?_ hm, e2, e23, e10, e22, e5, e25, e4⟩
  rcases hz with ⟨rfl, rfl⟩ | ⟨rfl, rfl⟩ | ⟨rfl, h1, h2⟩ | ⟨rfl, rfl⟩ | ⟨rfl, rfl⟩ | ⟨rfl, rfl⟩ | ⟨rfl, h1, h2⟩
  · omega
  · omega
  · have := e10 (j - 32 * s) (by omega)
    rw [show 32 * s + (j - 32 * s) = j by omega] at this
    omega
  · omega
  · omega
  · omega
  · have := e4 (j - 8 * s) (by omega)
    rw [show 8 * s + (j - 8 * s) = j by omega] at this
    omega
/-- what stands in an object that is done -/
def zfin (w : xW) (c : va_E) : zE := fun k j => if k = 1 then .inr (4, [.ref (w.1 2 j), .ref (w.1 22 j), .ref (w.1 5 j), .int 0, .int 5, .int 10, .long 0, .int (-1), .int 0, .int 0, .int 0, .int 0, .int 0, .int 0]) else if k = 22 then .inl (w.2.2.1 5, (8, .inr (.inr (.inr (.inr fun f => if f < 8 then some (w.1 4 (8 * j + f)) else none))))) else if k = 23 then .inl (w.2.2.1 4, (21, .inr (.inr (.inr (.inr fun f => if f < 21 then some (w.1 10 (32 * j + f)) else none))))) else if k = 2 then .inr (5, [.ref (w.1 23 j), .int 0, .int 0]) else if k = 10 then .inr (1, List.replicate 17 (.int 0)) else if k = 4 then .inr (0, List.replicate 11 (.int 0)) else if k = 5 then .inr (2, [.ref (w.1 25 j), .int 0, .int 0]) else if k = 25 then .inl (w.2.2.1 0, (64, .inl fun _ => 0)) else if k = 0 then .inr (6, [.ref (w.1 1 0), .ref (w.1 1 1), .ref (w.1 20 0), .ref (w.1 21 0), .ref (w.1 2 5), .ref (w.1 2 6), .ref (w.1 3 0)]) else if k = 20 then .inl (w.2.2.1 6, (2, .inr (.inr (.inr (.inr fun f => if f = 1 then some (w.1 1 3) else if f = 0 then some (w.1 1 2) else none))))) else if k = 21 then .inl (w.2.2.1 2, (2, .inl fun _ => 0)) else if k = 24 then .inl (w.2.2.1 3, (700, .inl fun _ => 0)) else if k = 3 then .inr (3, [.ref (w.1 24 0), .int 0, .ref (w.1 1 4), .ref (w.1 2 7), .int 0, .int (-1), .ref (w.1 50 0), .int 0, .int 0, .int 0]) else if k = 30 ∧ j = 0 then c else if k = 31 then .inl (w.2.2.1 0, (15, .inl fun f => Int32.ofInt (if f < 15 then perA f else 0))) else .inl (w.2.2.1 0, (4, .inl fun _ => 0))
theorem zT_fin {w : xW} {c : va_E} {t k j : Nat} {E : zE} (h : (k = 2 ∧ j = t) ∨ (k = 23 ∧ j = t) ∨ (k = 10 ∧ 32 * t ≤ j ∧ j < 32 * t + 21)) : zT w t E 21 k j = zfin w c k j := by
  unfold zT zfin
  rcases h with ⟨rfl, rfl⟩ | ⟨rfl, rfl⟩ | ⟨rfl, h1, h2⟩
  · rw [if_neg (by omega), if_neg (by omega), if_pos ⟨rfl, rfl⟩]; rfl
  · rw [if_neg (by omega), if_pos ⟨rfl, rfl⟩]; rfl
  · rw [if_pos ⟨rfl, h1, h2⟩]; rfl
theorem zT_o {w : xW} {t k j : Nat} {E : zE} (h : ¬ ((k = 2 ∧ j = t) ∨ (k = 23 ∧ j = t) ∨ (k = 10 ∧ 32 * t ≤ j ∧ j < 32 * t + 21))) : zT w t E 21 k j = E k j := by
  unfold zT
  rw [if_neg (by omega), if_neg (by omega), if_neg (by omega)]
theorem zS_fin {w : xW} {c : va_E} {s k j : Nat} {E : zE} (h : (k = 1 ∧ j = s) ∨ zmi s k j) : zS w s E 8 k j = zfin w c k j := by
  unfold zS zSa
  rcases h with ⟨rfl, rfl⟩ | ⟨rfl, rfl⟩ | ⟨rfl, rfl⟩ | ⟨rfl, h1, h2⟩ | ⟨rfl, rfl⟩ | ⟨rfl, rfl⟩ | ⟨rfl, rfl⟩ | ⟨rfl, h1, h2⟩
  · rw [if_neg (by omega), if_neg (by omega), if_pos ⟨rfl, rfl⟩]; rfl
  · rw [if_neg (by omega), if_neg (by omega), if_neg (by omega), if_neg (by omega), if_neg (by omega)]; exact zT_fin (by omega)
  · rw [if_neg (by omega), if_neg (by omega), if_neg (by omega), if_neg (by omega), if_neg (by omega)]; exact zT_fin (by omega)
  · rw [if_neg (by omega), if_neg (by omega), if_neg (by omega), if_neg (by omega), if_neg (by omega)]; exact zT_fin (by omega)
  · rw [if_neg (by omega), if_pos ⟨rfl, rfl⟩]; rfl
  · rw [if_neg (by omega), if_neg (by omega), if_neg (by omega), if_neg (by omega), if_pos ⟨rfl, rfl⟩]; rfl
  · rw [if_neg (by omega), if_neg (by omega), if_neg (by omega), if_pos ⟨rfl, rfl⟩]; rfl
  · rw [if_pos ⟨rfl, h1, h2⟩]; rfl
theorem zS_o {w : xW} {s k j : Nat} {E : zE} (h : ¬ ((k = 1 ∧ j = s) ∨ zmi s k j)) : zS w s E 8 k j = E k j := by
  unfold zmi at h
  unfold zS zSa
  rw [if_neg (by omega), if_neg (by omega), if_neg (by omega), if_neg (by omega), if_neg (by omega)]
  exact zT_o (by omega)
theorem zfin_c {w : xW} {c c' : va_E} : zup (zfin w c) 30 0 c' = zfin w c' := by
  funext k j
  unfold zup
  by_cases h : k = 30 ∧ j = 0
  · obtain ⟨rfl, rfl⟩ := h
    rfl
  · rw [if_neg h]
    unfold zfin
    simp only [if_neg h]
