/-! THE ABSTRACT MACHINE: values, store, world; X: from here the method comes to its end -/
abbrev xV : Type := (Int ⊕ Int) ⊕ ((Nat × Nat) ⊕ Value)
abbrev xi (a : Int) : xV := Sum.inl (Sum.inl a)
abbrev xl (a : Int) : xV := Sum.inl (Sum.inr a)
abbrev xp (k j : Nat) : xV := Sum.inr (Sum.inl (k, j))
abbrev xv (v : Value) : xV := Sum.inr (Sum.inr v)
abbrev xj : xV := xv (.retAddr 0)
abbrev xS : Type := Nat → Nat → Nat → Int
abbrev xW : Type := (Nat → Nat → Nat) × va_G × (Nat → ClassId) × Nat × (Nat → Nat) × Nat × (Nat → Int32)
abbrev xr (a : Int) : Prop := -2147483648 ≤ a ∧ a < 2147483648
abbrev x64 (a : Int) : Prop := -9223372036854775808 ≤ a ∧ a < 9223372036854775808
def xc (ad : Nat → Nat → Nat) : xV → Value
  | .inl (.inl a) => .int (Int32.ofInt a)
  | .inl (.inr a) => .long (Int64.ofInt a)
  | .inr (.inl q) => .ref (ad q.1 q.2)
  | .inr (.inr v) => v
/-- which objects there are -/
def xval (k j : Nat) : Bool := match k with
  | 0 => j == 0
  | 1 => decide (j < 5)
  | 2 => decide (j < 8)
  | 3 => j == 0
  | 4 => decide (j < 40)
  | 5 => decide (j < 5)
  | 10 => decide (j / 32 < 8) && decide (j % 32 < 21)
  | 20 => j == 0
  | 21 => j == 0
  | 22 => decide (j < 5)
  | 23 => decide (j < 8)
  | 24 => j == 0
  | 25 => decide (j < 5)
  | 30 => j == 0
  | 31 => j == 0
  | 32 => j == 0
  | k => decide (50 ≤ k)
def xLL : List (Nat × Nat) := (List.range 50).flatMap fun k => ((List.range 256).filter fun j => xval k j).map fun j => (k, j)
theorem xval_lt {k j : Nat} (h : xval k j = true) (hk : k < 50) : j < 256 := by
  unfold xval at h
  split at h <;> simp at h <;> omega
theorem xLL_in {k j : Nat} (h : xval k j = true) (hk : k < 50) : (k, j) ∈ xLL := by
  refine List.mem_flatMap.mpr ⟨k, List.mem_range.mpr hk, List.mem_map.mpr ⟨j, List.mem_filter.mpr ⟨List.mem_range.mpr (xval_lt h hk), h⟩, rfl⟩⟩
theorem xLL_of {q : Nat × Nat} (h : q ∈ xLL) : xval q.1 q.2 = true ∧ q.1 < 50 := by
  obtain ⟨k, hk, h⟩ := List.mem_flatMap.mp h
  obtain ⟨j, hj, rfl⟩ := List.mem_map.mp h
  exact ⟨(List.mem_filter.mp hj).2, List.mem_range.mp hk⟩
theorem xLL_nd : xLL.Nodup := by decide +kernel
def xok : xV → Prop
  | .inr (.inl q) => xval q.1 q.2 = true
  | _ => True
abbrev xf (F : Nat → Int) (f : Nat) : Value := .int (Int32.ofInt (F f))
/-- what the object k, j looks like -/
def xce (w : xW) (k j : Nat) (F : Nat → Int) : va_E := match k with
  | 0 => .inr (6, [.ref (w.1 1 0), .ref (w.1 1 1), .ref (w.1 20 0), .ref (w.1 21 0), .ref (w.1 2 5), .ref (w.1 2 6), .ref (w.1 3 0)])
  | 1 => .inr (4, [.ref (w.1 2 j), .ref (w.1 22 j), .ref (w.1 5 j), xf F 3, xf F 4, xf F 5, .long (Int64.ofInt (F 6)), xf F 7, xf F 8, xf F 9, xf F 10, xf F 11, xf F 12, xf F 13])
  | 2 => .inr (5, [.ref (w.1 23 j), xf F 1, xf F 2])
  | 3 => .inr (3, [.ref (w.1 24 0), xf F 1, .ref (w.1 1 4), .ref (w.1 2 7), xf F 4, xf F 5, .ref (w.1 50 (F 6).toNat), xf F 7, xf F 8, xf F 9])
  | 4 => .inr (0, [xf F 0, xf F 1, xf F 2, xf F 3, xf F 4, xf F 5, xf F 6, xf F 7, xf F 8, xf F 9, xf F 10])
  | 5 => .inr (2, [.ref (w.1 25 j), xf F 1, xf F 2])
  | 10 => .inr (1, [xf F 0, xf F 1, xf F 2, xf F 3, xf F 4, xf F 5, xf F 6, xf F 7, xf F 8, xf F 9, xf F 10, xf F 11, xf F 12, xf F 13, xf F 14, xf F 15, xf F 16])
  | 20 => .inl (w.2.2.1 6, (2, .inr (.inr (.inr (.inr fun f => some (w.1 1 (2 + f)))))))
  | 21 => .inl (w.2.2.1 2, (2, .inl fun f => Int32.ofInt (F f)))
  | 22 => .inl (w.2.2.1 5, (8, .inr (.inr (.inr (.inr fun f => some (w.1 4 (8 * j + f)))))))
  | 23 => .inl (w.2.2.1 4, (21, .inr (.inr (.inr (.inr fun f => some (w.1 10 (32 * j + f)))))))
  | 24 => .inl (w.2.2.1 3, (700, .inl fun f => Int32.ofInt (F f)))
  | 25 => .inl (w.2.2.1 0, (64, .inl fun f => Int32.ofInt (F f)))
  | 30 => .inr (7, [.ref (w.1 0 0), (if F 1 = 0 then .null else .ref (w.1 52 0)), xf F 2, .ref (w.1 31 0), .ref (w.1 32 0)])
  | 31 => .inl (w.2.2.1 0, (15, .inl fun f => Int32.ofInt (F f)))
  | 32 => .inl (w.2.2.1 0, (4, .inl fun f => Int32.ofInt (F f)))
  | _ => .inl (w.2.2.1 0, (0, .inl fun f => Int32.ofInt (F f)))
def xwl (w : xW) (S : xS) : va_W := xLL.map fun q => (w.1 q.1 q.2, xce w q.1 q.2 (S q.1 q.2))
def xtys (w : xW) : List (ClassId × FieldType) := [(w.2.2.1 0, .int), (w.2.2.1 0, .int), (w.2.2.1 2, .boolean), (w.2.2.1 3, .byte), (w.2.2.1 4, .object "PromiseMarket$Promise"), (w.2.2.1 5, .object "PromiseMarket$Process"), (w.2.2.1 6, .object "PromiseMarket$State")]
def xlng (k f : Nat) : Bool := match k with
  | 1 => f == 6
  | _ => false
/-- every number of the store is in its range -/
def xWR (S : xS) : Prop := (∀ k j f, x64 (S k j f)) ∧ ∀ k j f, xlng k f = false → xr (S k j f)
def xfr (w : xW) : Nat → Prop := fun q => w.2.2.2.1 ≤ q
def xRep (w : xW) (S : xS) (H : Heap) : Prop := va_P w.2.1 vwCl (xwl w S) H ∧ va_D (xfr w) (xwl w S) ∧ xWR S
/-- the store with one number changed -/
def up (S : xS) (k j f : Nat) (v : Int) : xS := fun k' j' f' => if k' = k ∧ j' = j ∧ f' = f then v else S k' j' f'
theorem up_oth {S : xS} {k j f k' j' : Nat} {v : Int} (h : ¬ (k' = k ∧ j' = j)) : up S k j f v k' j' = S k' j' := by
  funext f'
  unfold up
  rw [if_neg (fun z => h ⟨z.1, z.2.1⟩)]
theorem up_row (S : xS) (k j f : Nat) (v : Int) : up S k j f v k j = fun f' => if f' = f then v else S k j f' := by
  funext f'
  unfold up
  by_cases h : f' = f
  · rw [if_pos ⟨rfl, rfl, h⟩, if_pos h]
  · rw [if_neg (fun z => h z.2.2), if_neg h]
theorem xWR.up {S : xS} (h : xWR S) (k j f : Nat) {v : Int} (h1 : x64 v) (h2 : xlng k f = false → xr v) : xWR (up S k j f v) := by
  refine ⟨fun k' j' f' => ?_, fun k' j' f' hl => ?_⟩
  · show x64 (if k' = k ∧ j' = j ∧ f' = f then v else S k' j' f')
    by_cases q : k' = k ∧ j' = j ∧ f' = f
    · rw [if_pos q]; exact h1
    · rw [if_neg q]; exact h.1 k' j' f'
  · show xr (if k' = k ∧ j' = j ∧ f' = f then v else S k' j' f')
    by_cases q : k' = k ∧ j' = j ∧ f' = f
    · rw [if_pos q]; exact h2 (by rw [← q.1, ← q.2.2]; exact hl)
    · rw [if_neg q]; exact h.2 k' j' f' hl
/-- the place of an object in the world's list -/
theorem xwl_at {k j : Nat} (h : xval k j = true) (hk : k < 50) : ∃ i : Nat, xLL[i]? = some (k, j) ∧ ∀ (w : xW) (S : xS), (xwl w S)[i]? = some (w.1 k j, xce w k j (S k j)) := by
  obtain ⟨i, hi⟩ := List.getElem?_of_mem (xLL_in h hk)
  exact ⟨i, hi, fun w S => by unfold xwl; rw [List.getElem?_map, hi]; rfl⟩
theorem xwl_set {w : xW} {S S' : xS} {k j i : Nat} (hi : xLL[i]? = some (k, j)) (ho : ∀ k' j', ¬ (k' = k ∧ j' = j) → S' k' j' = S k' j') : (xwl w S).set i (w.1 k j, xce w k j (S' k j)) = xwl w S' := by
  refine List.ext_getElem? fun n => ?_
  by_cases hn : n = i
  · subst hn
    rw [List.getElem?_set_self (by unfold xwl; rw [List.length_map]; exact (List.getElem?_eq_some_iff.mp hi).1)]
    unfold xwl
    rw [List.getElem?_map, hi]
    rfl
  · rw [List.getElem?_set_ne (Ne.symm hn)]
    unfold xwl
    rw [List.getElem?_map, List.getElem?_map]
    cases hq : xLL[n]? with
    | none => rfl
    | some q =>
      obtain ⟨k', j'⟩ := q
      have hne : ¬ (k' = k ∧ j' = j) := by
        rintro ⟨rfl, rfl⟩
        obtain ⟨l1, e1⟩ := List.getElem?_eq_some_iff.mp hi
        obtain ⟨l2, e2⟩ := List.getElem?_eq_some_iff.mp hq
        exact hn ((List.getElem_inj xLL_nd).mp (e2.trans e1.symm))
      show some (_, xce w k' j' (S k' j')) = some (_, xce w k' j' (S' k' j'))
      rw [ho k' j' hne]
theorem xRep.upd {w : xW} {S S' : xS} {H1 : Heap} {k j i : Nat} (hi : xLL[i]? = some (k, j)) (ho : ∀ k' j', ¬ (k' = k ∧ j' = j) → S' k' j' = S k' j') (hW : xWR S')
    (hP : va_P w.2.1 vwCl ((xwl w S).set i (w.1 k j, xce w k j (S' k j))) H1) (hD : va_D (xfr w) ((xwl w S).set i (w.1 k j, xce w k j (S' k j)))) : xRep w S' H1 := by
  rw [xwl_set hi ho] at hP hD
  exact ⟨hP, hD, hW⟩
/-! the locals -/
def xjk : xV → Bool
  | .inr (.inr (.retAddr _)) => true
  | _ => false
def xpl (ad : Nat → Nat → Nat) : Nat → List xV → List (Nat × Value)
  | _, [] => []
  | n, v :: r => if xjk v then xpl ad (n + 1) r else (n, xc ad v) :: xpl ad (n + 1) r
theorem xpl_mem {ad : Nat → Nat → Nat} {L : List xV} : ∀ {n : Nat} {q : Nat × Value}, q ∈ xpl ad n L ↔ ∃ (j : Nat) (v : xV), q.1 = n + j ∧ L[j]? = some v ∧ xjk v = false ∧ q.2 = xc ad v := by
  induction L with
  | nil =>
    intro n q
    constructor
    · intro h; cases h
    · rintro ⟨j, v, -, h, -⟩; simp at h
  | cons a r ih =>
    intro n q
    have base : ∀ (j : Nat), (a :: r)[j + 1]? = r[j]? := fun j => by simp
    constructor
    · intro h
      unfold xpl at h
      by_cases ha : xjk a = true
      · rw [if_pos ha] at h
        obtain ⟨j, v, h1, h2, h3, h4⟩ := ih.mp h
        exact ⟨j + 1, v, by omega, by rw [base]; exact h2, h3, h4⟩
      · rw [if_neg ha] at h
        rcases List.mem_cons.mp h with rfl | h
        · exact ⟨0, a, rfl, by simp, by simpa using ha, rfl⟩
        · obtain ⟨j, v, h1, h2, h3, h4⟩ := ih.mp h
          exact ⟨j + 1, v, by omega, by rw [base]; exact h2, h3, h4⟩
    · rintro ⟨j, v, h1, h2, h3, h4⟩
      unfold xpl
      cases j with
      | zero =>
        simp at h2
        subst h2
        rw [if_neg (by rw [h3]; decide)]
        exact List.mem_cons.mpr (Or.inl (Prod.ext h1 h4))
      | succ j =>
        rw [base] at h2
        have h5 : q ∈ xpl ad (n + 1) r := ih.mpr ⟨j, v, by omega, h2, h3, h4⟩
        by_cases ha : xjk a = true
        · rw [if_pos ha]; exact h5
        · rw [if_neg ha]; exact List.mem_cons_of_mem _ h5
def xlh (ad : Nat → Nat → Nat) (ls : Array Slot) (nL : Nat) (L : List xV) : Prop := L.length = nL ∧ lv_has ls nL (xpl ad 0 L)
theorem xlh.get {ad : Nat → Nat → Nat} {ls : Array Slot} {nL : Nat} {L : List xV} (h : xlh ad ls nL L) {i : Nat} {v : xV} (hi : L[i]? = some v) (hv : xjk v = false) : ls[i]? = some (.val (xc ad v)) :=
  h.2.2.2 (i, xc ad v) (xpl_mem.mpr ⟨i, v, by simp, hi, hv, rfl⟩)
theorem xlh.size {ad : Nat → Nat → Nat} {ls : Array Slot} {nL : Nat} {L : List xV} (h : xlh ad ls nL L) : ls.size = nL := h.2.1
def xcat2 : xV → Bool
  | .inl (.inr _) => true
  | .inr (.inr (.double _)) => true
  | .inr (.inr (.long _)) => true
  | _ => false
theorem xcat_of {ad : Nat → Nat → Nat} {v : xV} (h : xcat2 v = false) : (xc ad v).category ≠ 2 := by
  rcases v with (a | a) | (q | v)
  · simp [xc, Value.category]
  · simp [xcat2] at h
  · simp [xc, Value.category]
  · cases v <;> simp [xc, Value.category, xcat2] at h ⊢
/-- no value of two slots stands right before the place i -/
def xpre (L : List xV) (i : Nat) : Prop := ∀ (j : Nat) (v : xV), j + 1 = i → L[j]? = some v → xcat2 v = false
theorem xlh.set1 {ad : Nat → Nat → Nat} {ls' : Array Slot} {nL : Nat} {L : List xV} {i : Nat} {v : xV} (hn : L.length = nL) (hp : xpre L i)
    (h : lv_has ls' nL ((i, xc ad v) :: (xpl ad 0 L).filter (fun q => !(q.1 == i) && !(q.1 + 1 == i && q.2.category == 2)))) : xlh ad ls' nL (L.set i v) := by
  refine ⟨by rw [List.length_set]; exact hn, h.1, h.2.1, fun q hq => ?_⟩
  obtain ⟨j, u, h1, h2, h3, h4⟩ := xpl_mem.mp hq
  rw [Nat.zero_add] at h1
  by_cases hj : j = i
  · subst hj
    have hlt : j < L.length := by
      have := (List.getElem?_eq_some_iff.mp h2).1
      rwa [List.length_set] at this
    rw [List.getElem?_set_self hlt] at h2
    cases h2
    rw [h1, h4]
    exact h.2.2 (j, xc ad v) List.mem_cons_self
  · rw [List.getElem?_set_ne (Ne.symm hj)] at h2
    refine h.2.2 q (List.mem_cons_of_mem _ (List.mem_filter.mpr ⟨xpl_mem.mpr ⟨j, u, by omega, h2, h3, h4⟩, ?_⟩))
    simp only [Bool.and_eq_true, Bool.not_eq_true', beq_eq_false_iff_ne, ne_eq, Bool.and_eq_false_iff]
    refine ⟨by rw [h1]; exact hj, ?_⟩
    by_cases e : j + 1 = i
    · exact Or.inr (by rw [h4]; exact xcat_of (hp j u e h2))
    · exact Or.inl (by rw [h1]; exact e)
theorem xlh.set2 {ad : Nat → Nat → Nat} {ls' : Array Slot} {nL : Nat} {L : List xV} {i : Nat} {v : xV} (hn : L.length = nL) (hp : xpre L i)
    (h : lv_has ls' nL ((i, xc ad v) :: (xpl ad 0 L).filter (fun q => !(q.1 == i) && (!(q.1 == i + 1) && !(q.1 + 1 == i && q.2.category == 2))))) : xlh ad ls' nL ((L.set i v).set (i + 1) xj) := by
  refine ⟨by rw [List.length_set, List.length_set]; exact hn, h.1, h.2.1, fun q hq => ?_⟩
  obtain ⟨j, u, h1, h2, h3, h4⟩ := xpl_mem.mp hq
  rw [Nat.zero_add] at h1
  have hlt : j < L.length := by
    have := (List.getElem?_eq_some_iff.mp h2).1
    rwa [List.length_set, List.length_set] at this
  by_cases hj2 : j = i + 1
  · subst hj2
    rw [List.getElem?_set_self (by rw [List.length_set]; exact hlt)] at h2
    cases h2
    cases h3
  · rw [List.getElem?_set_ne (Ne.symm hj2)] at h2
    by_cases hj : j = i
    · subst hj
      rw [List.getElem?_set_self hlt] at h2
      cases h2
      rw [h1, h4]
      exact h.2.2 (j, xc ad v) List.mem_cons_self
    · rw [List.getElem?_set_ne (Ne.symm hj)] at h2
      refine h.2.2 q (List.mem_cons_of_mem _ (List.mem_filter.mpr ⟨xpl_mem.mpr ⟨j, u, by omega, h2, h3, h4⟩, ?_⟩))
      simp only [Bool.and_eq_true, Bool.not_eq_true', beq_eq_false_iff_ne, ne_eq, Bool.and_eq_false_iff]
      refine ⟨by rw [h1]; exact hj, by rw [h1]; exact hj2, ?_⟩
      by_cases e : j + 1 = i
      · exact Or.inr (by rw [h4]; exact xcat_of (hp j u e h2))
      · exact Or.inl (by rw [h1]; exact e)
