/-! the start -/
theorem zx_eqR {args : Array Value} {s : State} {t u : Term} {a b : Nat} (h : (Cond.eq t u).before args s = true) (ht : t.eval args s none [] s = some (.ref a)) (hu : u.eval args s none [] s = some (.ref b)) : a = b := by
  simp [Cond.before, Cond.holds, Cond.value, ht, hu] at h
  exact h
theorem zx_str {args : Array Value} {s : State} {t : Term} (h : (Cond.exactly t "java/lang/String").before args s = true) : ∃ a : Nat, t.eval args s none [] s = some (.ref a) := by
  obtain ⟨a, c, cA, kA, q1, -⟩ := Cond.exactly_spec (args := args) (first := s) (o := none) (s := s) (idx := []) (t := t) (cls := "java/lang/String") h
  exact ⟨a, q1⟩
/-- the classes, as the tables have them -/
theorem zx_cls {s : State} {b : Nat} (hts : ∀ w ∈ lw_tbl, w.before #[Value.ref b] s = true) : ∃ (dC : Nat → ClassId) (dI : Nat → Nat → Nat), ∀ (c : Nat) (r : vw_C), vwCl[c]? = some r → u_Kn s r.1 r.2.1 r.2.2 (dC c) (dI c) := by
  have h0 : ∀ c : Nat, ∃ q : ClassId × (Nat → Nat), ∀ r, vwCl[c]? = some r → u_Kn s r.1 r.2.1 r.2.2 q.1 q.2 := by
    intro c
    obtain ⟨a0, i0, h0⟩ := u_known (n := 11) hts (fun w hw => (List.mem_filter.mp (xin_X0 w hw)).1) (hts _ (List.mem_append_right _ (List.mem_of_getElem? (i := 159) (by decide +kernel))))
    obtain ⟨a1, i1, h1⟩ := u_known (n := 17) hts (fun w hw => (List.mem_filter.mp (xin_X1 w hw)).1) (hts _ (List.mem_append_right _ (List.mem_of_getElem? (i := 45) (by decide +kernel))))
    obtain ⟨a2, i2, h2⟩ := u_known (n := 3) hts (fun w hw => (List.mem_filter.mp (xin_X2 w hw)).1) (hts _ (List.mem_append_right _ (List.mem_of_getElem? (i := 142) (by decide +kernel))))
    obtain ⟨a3, i3, h3⟩ := u_known (n := 10) hts (fun w hw => (List.mem_filter.mp (xin_X3 w hw)).1) (hts _ (List.mem_append_right _ (List.mem_of_getElem? (i := 272) (by decide +kernel))))
    obtain ⟨a4, i4, h4⟩ := u_known (n := 14) hts (fun w hw => (List.mem_filter.mp (xin_X4 w hw)).1) (hts _ (List.mem_append_right _ (List.mem_of_getElem? (i := 32) (by decide +kernel))))
    obtain ⟨a5, i5, h5⟩ := u_known (n := 3) hts (fun w hw => (List.mem_filter.mp (xin_X5 w hw)).1) (hts _ (List.mem_append_right _ (List.mem_of_getElem? (i := 38) (by decide +kernel))))
    obtain ⟨a6, i6, h6⟩ := u_known (n := 7) hts (fun w hw => (List.mem_filter.mp (xin_X7 w hw)).1) (hts _ (List.mem_append_right _ (List.mem_of_getElem? (i := 24) (by decide +kernel))))
    obtain ⟨a7, i7, h7⟩ := u_known (n := 23) hts (fun w hw => (List.mem_filter.mp (xin_X8 w hw)).1) (hts _ (List.mem_append_right _ (List.mem_of_getElem? (i := 1105) (by decide +kernel))))
    match c with
    | 0 => exact ⟨(a0, i0), fun r hr => by cases hr; exact h0⟩
    | 1 => exact ⟨(a1, i1), fun r hr => by cases hr; exact h1⟩
    | 2 => exact ⟨(a2, i2), fun r hr => by cases hr; exact h2⟩
    | 3 => exact ⟨(a3, i3), fun r hr => by cases hr; exact h3⟩
    | 4 => exact ⟨(a4, i4), fun r hr => by cases hr; exact h4⟩
    | 5 => exact ⟨(a5, i5), fun r hr => by cases hr; exact h5⟩
    | 6 => exact ⟨(a6, i6), fun r hr => by cases hr; exact h6⟩
    | 7 => exact ⟨(a7, i7), fun r hr => by cases hr; exact h7⟩
    | n + 8 => exact ⟨(a0, i0), fun r hr => by cases hr⟩
  obtain ⟨f, hf⟩ := Classical.axiomOfChoice h0
  exact ⟨fun c => (f c).1, fun c => (f c).2, hf⟩
theorem zx_arr1 {s : State} {args : Array Value} {ty : FieldType} (h : (Cond.arrayClass ty).before args s = true) : ∃ (cA : ClassId) (kA : Class) (comp : ClassId), s.vm.findClass ("[" ++ ty.toString) = some cA ∧ s.vm.classes[cA]? = some kA ∧ kA.kind = .array comp ty := by
  exact Cond.arrayClass_spec h
theorem zx_arr2 {s : State} {args : Array Value} {C : String} (h : (Cond.arrayOver (.object C)).before args s = true) : ∃ (cA : ClassId) (kA : Class) (comp : ClassId), s.vm.findClass ("[" ++ (FieldType.object C).toString) = some cA ∧ s.vm.classes[cA]? = some kA ∧ kA.kind = .array comp (.object C) ∧ s.vm.findClass C = some comp := by
  obtain ⟨comp, c, k, h1, h2, h3, h4, h5⟩ := Cond.arrayOver_spec h
  exact ⟨c, k, comp, h5, h3, h4, h1⟩
theorem zx_arr {s : State} {b : Nat} (hts : ∀ w ∈ lw_tbl, w.before #[Value.ref b] s = true) : ∃ cls : Nat → ClassId, ∀ (k : Nat) (q : ClassId × FieldType), [(cls 0, (.int : FieldType)), (cls 1, (.long : FieldType)), (cls 2, (.boolean : FieldType)), (cls 3, (.byte : FieldType)), (cls 4, (.object "PromiseMarket$Promise" : FieldType)), (cls 5, (.object "PromiseMarket$Process" : FieldType)), (cls 6, (.object "PromiseMarket$State" : FieldType))][k]? = some q → ArrOfT s q.1 q.2 ∧ va_RA s q.1 q.2 := by
  obtain ⟨c0, k0, p0, f0, g0, e0⟩ := zx_arr1 (ty := .int) (hts _ (List.mem_append_right _ (List.mem_of_getElem? (i := 158) (by decide +kernel))))
  obtain ⟨c1, k1, p1, f1, g1, e1⟩ := zx_arr1 (ty := .long) (hts _ (List.mem_append_right _ (List.mem_of_getElem? (i := 1187) (by decide +kernel))))
  obtain ⟨c2, k2, p2, f2, g2, e2⟩ := zx_arr1 (ty := .boolean) (hts _ (List.mem_append_right _ (List.mem_of_getElem? (i := 318) (by decide +kernel))))
  obtain ⟨c3, k3, p3, f3, g3, e3⟩ := zx_arr1 (ty := .byte) (hts _ (List.mem_append_right _ (List.mem_of_getElem? (i := 319) (by decide +kernel))))
  obtain ⟨c4, k4, p4, f4, g4, e4, o4⟩ := zx_arr2 (C := "PromiseMarket$Promise") (hts _ (List.mem_append_right _ (List.mem_of_getElem? (i := 44) (by decide +kernel))))
  obtain ⟨c5, k5, p5, f5, g5, e5, o5⟩ := zx_arr2 (C := "PromiseMarket$Process") (hts _ (List.mem_append_right _ (List.mem_of_getElem? (i := 140) (by decide +kernel))))
  obtain ⟨c6, k6, p6, f6, g6, e6, o6⟩ := zx_arr2 (C := "PromiseMarket$State") (hts _ (List.mem_append_right _ (List.mem_of_getElem? (i := 268) (by decide +kernel))))
  refine ⟨fun j => if j = 0 then c0 else if j = 1 then c1 else if j = 2 then c2 else if j = 3 then c3 else if j = 4 then c4 else if j = 5 then c5 else c6, fun k q hq => ?_⟩
  match k with
  | 0 => cases hq; exact ⟨fun n z => ⟨fun k h => (by cases h), k0, g0, p0, e0⟩, f0⟩
  | 1 => cases hq; exact ⟨fun n z => ⟨fun k h => (by cases h), k1, g1, p1, e1⟩, f1⟩
  | 2 => cases hq; exact ⟨fun n z => ⟨fun k h => (by cases h), k2, g2, p2, e2⟩, f2⟩
  | 3 => cases hq; exact ⟨fun n z => ⟨fun k h => (by cases h), k3, g3, p3, e3⟩, f3⟩
  | 4 => cases hq; exact ⟨fun n z => ⟨fun k h => (by cases h), k4, g4, p4, e4⟩, ⟨k4, p4, g4, e4, o4, f4⟩⟩
  | 5 => cases hq; exact ⟨fun n z => ⟨fun k h => (by cases h), k5, g5, p5, e5⟩, ⟨k5, p5, g5, e5, o5, f5⟩⟩
  | 6 => cases hq; exact ⟨fun n z => ⟨fun k h => (by cases h), k6, g6, p6, e6⟩, ⟨k6, p6, g6, e6, o6, f6⟩⟩
  | n + 7 => cases hq
theorem zx_tok {s : State} {b : Nat} (hts : ∀ w ∈ lw_tbl, w.before #[Value.ref b] s = true) (hg : (Jvm.Cond.and given_1 narrow_1).before #[Value.ref b] s = true) : ∃ ad : Nat → Nat, va_En "PromiseMarket$Token" "LPromiseMarket$Token;" ["END", "WORD", "NUMBER", "SEMICOLON", "WRONG"] [] ad (fun q => s.heap.size ≤ q) s s.heap := by
  have hs := flat_of_before _ hg
  refine va_Enof (args := #[Value.ref b]) (fun i hi => ?_) (hts _ (List.mem_append_right _ (List.mem_of_getElem? (i := 9) (by decide +kernel)))) (fun i hi => ?_) (fun q hq => nomatch hq) (fun i j hi hj hij => ?_) (fun a ha => Nat.not_le.mpr ha)
  · have hi : i < 5 := hi
    rcases (show i = 0 ∨ i = 1 ∨ i = 2 ∨ i = 3 ∨ i = 4 by omega) with rfl | rfl | rfl | rfl | rfl
    · exact (hts _ (List.mem_append_right _ (List.mem_of_getElem? (i := 282) (by decide +kernel))))
    · exact (hts _ (List.mem_append_right _ (List.mem_of_getElem? (i := 452) (by decide +kernel))))
    · exact (hts _ (List.mem_append_right _ (List.mem_of_getElem? (i := 458) (by decide +kernel))))
    · exact (hts _ (List.mem_append_right _ (List.mem_of_getElem? (i := 468) (by decide +kernel))))
    · exact (hts _ (List.mem_append_right _ (List.mem_of_getElem? (i := 470) (by decide +kernel))))
  · have hi : i < 5 := hi
    rcases (show i = 0 ∨ i = 1 ∨ i = 2 ∨ i = 3 ∨ i = 4 by omega) with rfl | rfl | rfl | rfl | rfl <;> exact hs _ (by decide +kernel)
  · have hi : i < 5 := hi
    have hj : j < 5 := hj
    rcases (show i = 0 ∨ i = 1 ∨ i = 2 ∨ i = 3 ∨ i = 4 by omega) with rfl | rfl | rfl | rfl | rfl <;> rcases (show j = 0 ∨ j = 1 ∨ j = 2 ∨ j = 3 ∨ j = 4 by omega) with rfl | rfl | rfl | rfl | rfl <;> first | exact absurd rfl hij | exact Or.inl (hs _ (by decide +kernel)) | exact Or.inr (hs _ (by decide +kernel))
def zx_tm (i : Nat) : Term := .string "PromiseMarket$SetupText" ([64, 73, 78, 83, 88, 93].getD i 0)
theorem zx_strs {s : State} {b : Nat} (hg : (Jvm.Cond.and given_1 narrow_1).before #[Value.ref b] s = true) : ∃ adK adV : Nat → Nat, vk_S 6 xslen xsbyt adK adV (fun q => s.heap.size ≤ q) s s.heap ∧ ∀ i : Nat, i < 6 → (zx_tm i).eval #[Value.ref b] s none [] s = some (.ref (adK i)) := by
  have hs := flat_of_before _ hg
  refine vk_Sof (args := #[Value.ref b]) (tm := zx_tm) (fun i hi => ?_) (fun i hi => ?_) (fun i hi => ?_) (fun i hi => ?_) (fun i hi => ?_) (fun i hi j hj => ?_) (fun i j hi hj hij => ?_) (fun a ha => Nat.not_le.mpr ha)
  · rcases (show i = 0 ∨ i = 1 ∨ i = 2 ∨ i = 3 ∨ i = 4 ∨ i = 5 by omega) with rfl | rfl | rfl | rfl | rfl | rfl <;> decide
  · rcases (show i = 0 ∨ i = 1 ∨ i = 2 ∨ i = 3 ∨ i = 4 ∨ i = 5 by omega) with rfl | rfl | rfl | rfl | rfl | rfl <;> exact hs _ (by decide +kernel)
  · rcases (show i = 0 ∨ i = 1 ∨ i = 2 ∨ i = 3 ∨ i = 4 ∨ i = 5 by omega) with rfl | rfl | rfl | rfl | rfl | rfl <;> exact hs _ (by decide +kernel)
  · rcases (show i = 0 ∨ i = 1 ∨ i = 2 ∨ i = 3 ∨ i = 4 ∨ i = 5 by omega) with rfl | rfl | rfl | rfl | rfl | rfl <;> exact hs _ (by decide +kernel)
  · rcases (show i = 0 ∨ i = 1 ∨ i = 2 ∨ i = 3 ∨ i = 4 ∨ i = 5 by omega) with rfl | rfl | rfl | rfl | rfl | rfl <;> exact hs _ (by decide +kernel)
  · rcases (show i = 0 ∨ i = 1 ∨ i = 2 ∨ i = 3 ∨ i = 4 ∨ i = 5 by omega) with rfl | rfl | rfl | rfl | rfl | rfl
    · have hj : j < 7 := hj
      rcases (show j = 0 ∨ j = 1 ∨ j = 2 ∨ j = 3 ∨ j = 4 ∨ j = 5 ∨ j = 6 by omega) with rfl | rfl | rfl | rfl | rfl | rfl | rfl <;> exact hs _ (by decide +kernel)
    · have hj : j < 3 := hj
      rcases (show j = 0 ∨ j = 1 ∨ j = 2 by omega) with rfl | rfl | rfl <;> exact hs _ (by decide +kernel)
    · have hj : j < 7 := hj
      rcases (show j = 0 ∨ j = 1 ∨ j = 2 ∨ j = 3 ∨ j = 4 ∨ j = 5 ∨ j = 6 by omega) with rfl | rfl | rfl | rfl | rfl | rfl | rfl <;> exact hs _ (by decide +kernel)
    · have hj : j < 5 := hj
      rcases (show j = 0 ∨ j = 1 ∨ j = 2 ∨ j = 3 ∨ j = 4 by omega) with rfl | rfl | rfl | rfl | rfl <;> exact hs _ (by decide +kernel)
    · have hj : j < 7 := hj
      rcases (show j = 0 ∨ j = 1 ∨ j = 2 ∨ j = 3 ∨ j = 4 ∨ j = 5 ∨ j = 6 by omega) with rfl | rfl | rfl | rfl | rfl | rfl | rfl <;> exact hs _ (by decide +kernel)
    · have hj : j < 3 := hj
      rcases (show j = 0 ∨ j = 1 ∨ j = 2 by omega) with rfl | rfl | rfl <;> exact hs _ (by decide +kernel)
  · rcases (show i = 0 ∨ i = 1 ∨ i = 2 ∨ i = 3 ∨ i = 4 ∨ i = 5 by omega) with rfl | rfl | rfl | rfl | rfl | rfl <;> rcases (show j = 0 ∨ j = 1 ∨ j = 2 ∨ j = 3 ∨ j = 4 ∨ j = 5 by omega) with rfl | rfl | rfl | rfl | rfl | rfl <;> first | exact absurd rfl hij | exact Or.inl (hs _ (by decide +kernel)) | exact Or.inr (hs _ (by decide +kernel))
