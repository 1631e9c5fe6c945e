/-! what is kept for ever: texts and copies -/
theorem Fut.of {t N : Nat} {C D : xS} (h : Fut t N D) (e2 : C 2 t = D 2 t) (e : ∀ j, j < N → C 10 (32 * t + j) = D 10 (32 * t + j)) : Fut t N C := h.cg (tlq.of (by rw [e2]) e)
theorem Fut.of3 {t N : Nat} {C D : xS} (h : Fut t N D) (e : ∀ a, a = 2 ∨ a = 10 → C a = D a) : Fut t N C := h.of (by rw [e 2 (Or.inl rfl)]) (fun j _ => by rw [e 10 (Or.inr rfl)])
theorem Fut.upo {t N k j f : Nat} {v : Int} {S : xS} (h : Fut t N S) (hk : k ≠ 2 ∧ k ≠ 10) : Fut t N (up S k j f v) := h.of3 (fun a ha => by funext y g; rw [up_k (by omega)])
theorem Fut.q {t N i f : Nat} {v : Int} {S : xS} (h : Fut t N S) (hf : ¬ tlf f) : Fut t N (up S 10 (32 * t + i) f v) := by
  refine h.cg ⟨by rw [up_k (by decide)], fun j hj g hg => ?_⟩
  rw [up_f (fun z => hf (by rw [← z]; exact hg))]
theorem Fut.x7 {N : Nat} {S1 S : xS} (h : Fut 4 N S) (hN : N ≤ 32) (hx : xtl 7 S1 S) : Fut 4 N S1 := h.of (hx 2 4 (by omega) (by omega)) (fun j hj => hx 10 (32 * 4 + j) (by omega) (by omega))
theorem Fut.cpy {u s n N : Nat} {S : xS} (hne : s ≠ u) (h : Fut u N S) : Fut s N (cpyS u s n N S) := by
  obtain ⟨e1, e2, e10, e4, e51, e52, e25⟩ := cpyS_at (n := n) (N := N) (S := S) hne
  refine h.cg ⟨?_, fun j hj f _ => ?_⟩
  · rw [e2]; unfold cpyT; rw [if_neg (by omega), if_pos ⟨rfl, rfl, rfl⟩]
  · rw [e10]; unfold cpyT; rw [if_neg (by omega), if_neg (by omega), if_pos ⟨rfl, by omega, by omega⟩, Nat.add_sub_cancel_left]

