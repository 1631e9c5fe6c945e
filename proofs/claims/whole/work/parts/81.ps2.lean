/-! a process in both texts, on -/
theorem up_cg {X Y : xS} {a k j f : Nat} {v : Int} (h : X a = Y a) : up X k j f v a = up Y k j f v a := by
  funext y g
  unfold up
  rw [h]
theorem ent_cg {X Y : xS} {a n : Nat} {m b d : Int} (h : X a = Y a) : entS 4 n m b d X a = entS 4 n m b d Y a := by
  unfold entS
  refine up_cg ?_
  funext y g
  unfold rwS
  rw [h]
