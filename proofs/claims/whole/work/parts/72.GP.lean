/-! the reference: acceptance in any state -/
theorem s_X8_accepts {w : xW} {S C : xS} {B : String → xS → Prop} {A : Int → xS → Prop} {s n N : Nat} {M : Nat → Int} {p b d T : Int} (hV : VS s n N T C) (hT : T ≤ 900000) (hR : Rel s n N C M) (hp : 1 ≤ p ∧ p ≤ 120) (hb : 1 ≤ b ∧ b ≤ 120) (hd : 1 ≤ d ∧ d ≤ 120) (hq : ∀ S', lnr S' S → S' 32 0 = S 32 0 → A (b2i (accF s 7 N p b d C = true)) (stM M S')) : Ki w mX8_accepts yX8_accepts 0 0 [xp 30 0, xi p, xi b, xi d] (stM M S) A B := by
  refine f_X8_accepts (u := 7) hV hT (by rw [stM_31]; exact hR) hp hb hd (fun S2 h => ?_)
  have e : stM M S2 = S2 := by
    have h9 := stM_self S2
    rw [h.1 31 0 (Or.inl (by decide)) (by decide), stM_31] at h9
    exact h9
  have h9 := hq S2 ⟨⟨fun k j hk => ?_, fun f hf => ?_⟩, fun f h1 h2 => ?_⟩ ?_
  · rw [e] at h9; exact h9
  · rw [h.1 k j (by omega) (by omega), stM_k (by omega)]
  · rw [h.2 0 f (by omega) (by omega), stM_k (by decide)]
  · rw [h.2 0 f h1 h2, stM_k (by decide)]
  · rw [h.1 32 0 (by omega) (by decide), stM_k (by decide)]
/-- no more than the two flags of the text's reader differ, and what the lines hold -/
theorem TR.x7 {n : Nat} {C C1 S : xS} (h : TR n C S) (hx : xtl 7 C1 C) : TR n C1 S := by
  unfold TR TB at h ⊢
  rw [hx 3 0 (by omega) (by omega), hx 24 0 (by omega) (by omega)]
  exact h
theorem TR.of {n : Nat} {C C1 S S1 : xS} (h : TR n C S) (h3 : ∀ f, f ≠ 4 → f ≠ 5 → C1 3 0 f = C 3 0 f) (h24 : C1 24 0 = C 24 0) (h30 : ∀ f, 14 ≤ f → f ≠ 20 → f ≠ 21 → S1 30 0 f = S 30 0 f) (h41 : S1 41 0 = S 41 0) : TR n C1 S1 := by
  unfold TR TB at h ⊢
  rw [h3 1 (by decide) (by decide), h3 6 (by decide) (by decide), h3 7 (by decide) (by decide), h3 8 (by decide) (by decide), h3 9 (by decide) (by decide), h24, h41, h30 14 (by decide) (by decide) (by decide), h30 15 (by decide) (by decide) (by decide), h30 16 (by decide) (by decide) (by decide), h30 17 (by decide) (by decide) (by decide), h30 18 (by decide) (by decide) (by decide), h30 19 (by decide) (by decide) (by decide), h30 22 (by decide) (by decide) (by decide)]
  exact h
