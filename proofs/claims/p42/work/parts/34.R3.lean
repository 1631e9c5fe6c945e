/-! PromiseMarketModel: a tick -/
theorem PR.mis {t : Int} {F G : Nat → Int} (h : PR t F G) (c : ¬ (0 < F 6 ∧ F 7 ≤ t + 1)) (h6 : 0 ≤ F 6) : PR (t + 1) (xmis (t + 1) F) G := by
  have e : xmis (t + 1) F = F := by funext f; unfold xmis; rw [if_neg c]
  rw [e]
  unfold PR at h ⊢
  refine ⟨h.1, h.2.1, ?_⟩
  omega
