/-! PromiseMarketModel: the small methods -/
/-! the reference: its state is one array -/
abbrev perP (a : Int) : Prop := 2 ≤ a ∧ a ≤ 120 ∧ Int.tmod 120 a = 0
abbrev wshP (p b d : Int) : Prop := perP p ∧ (1 ≤ b ∧ b ≤ 120) ∧ (b ≤ d ∧ d ≤ p)

