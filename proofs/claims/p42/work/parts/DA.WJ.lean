/-! the start -/
theorem zx_str {args : Array Value} {s : State} {t : Term} (h : (Cond.exactly t "java/lang/String").before args s = true) : ∃ a : Nat, t.eval args s none [] s = some (.ref a) := by
  obtain ⟨a, c, cA, kA, q1, -⟩ := Cond.exactly_spec (args := args) (first := s) (o := none) (s := s) (idx := []) (t := t) (cls := "java/lang/String") h
  exact ⟨a, q1⟩
/-- the classes, as the tables have them -/
theorem zx_cls {s : State} {b : Nat} (hts : ∀ w ∈ lw_tbl, w.before #[Value.ref b] s = true) : ∃ (dC : Nat → ClassId) (dI : Nat → Nat → Nat), ∀ (c : Nat) (r : vw_C), vwCl[c]? = some r → u_Kn s r.1 r.2.1 r.2.2 (dC c) (dI c) := by
  have h0 : ∀ c : Nat, ∃ q : ClassId × (Nat → Nat), ∀ r, vwCl[c]? = some r → u_Kn s r.1 r.2.1 r.2.2 q.1 q.2 := by
    intro c
    obtain ⟨a0, i0, h0⟩ := u_known (n := 11) hts (fun w hw => (List.mem_filter.mp (xin_X0 w hw)).1) (hts _ (List.mem_append_right _ (List.mem_of_getElem? (i := 158) (by decide +kernel))))
    obtain ⟨a1, i1, h1⟩ := u_known (n := 17) hts (fun w hw => (List.mem_filter.mp (xin_X1 w hw)).1) (hts _ (List.mem_append_right _ (List.mem_of_getElem? (i := 46) (by decide +kernel))))
    obtain ⟨a2, i2, h2⟩ := u_known (n := 3) hts (fun w hw => (List.mem_filter.mp (xin_X2 w hw)).1) (hts _ (List.mem_append_right _ (List.mem_of_getElem? (i := 141) (by decide +kernel))))
    obtain ⟨a3, i3, h3⟩ := u_known (n := 10) hts (fun w hw => (List.mem_filter.mp (xin_X3 w hw)).1) (hts _ (List.mem_append_right _ (List.mem_of_getElem? (i := 265) (by decide +kernel))))
    obtain ⟨a4, i4, h4⟩ := u_known (n := 14) hts (fun w hw => (List.mem_filter.mp (xin_X4 w hw)).1) (hts _ (List.mem_append_right _ (List.mem_of_getElem? (i := 33) (by decide +kernel))))
    obtain ⟨a5, i5, h5⟩ := u_known (n := 3) hts (fun w hw => (List.mem_filter.mp (xin_X5 w hw)).1) (hts _ (List.mem_append_right _ (List.mem_of_getElem? (i := 39) (by decide +kernel))))
    obtain ⟨a6, i6, h6⟩ := u_known (n := 7) hts (fun w hw => (List.mem_filter.mp (xin_X7 w hw)).1) (hts _ (List.mem_append_right _ (List.mem_of_getElem? (i := 27) (by decide +kernel))))
    obtain ⟨a7, i7, h7⟩ := u_known (n := 5) hts (fun w hw => (List.mem_filter.mp (xin_X9 w hw)).1) (hts _ (List.mem_append_right _ (List.mem_of_getElem? (i := 19) (by decide +kernel))))
    match c with
    | 0 => exact ⟨(a0, i0), fun r hr => by cases hr; exact h0⟩
    | 1 => exact ⟨(a1, i1), fun r hr => by cases hr; exact h1⟩
    | 2 => exact ⟨(a2, i2), fun r hr => by cases hr; exact h2⟩
    | 3 => exact ⟨(a3, i3), fun r hr => by cases hr; exact h3⟩
    | 4 => exact ⟨(a4, i4), fun r hr => by cases hr; exact h4⟩
    | 5 => exact ⟨(a5, i5), fun r hr => by cases hr; exact h5⟩
    | 6 => exact ⟨(a6, i6), fun r hr => by cases hr; exact h6⟩
    | 7 => exact ⟨(a7, i7), fun r hr => by cases hr; exact h7⟩
    | n + 8 => exact ⟨(a0, i0), fun r hr => by cases hr⟩
  obtain ⟨f, hf⟩ := Classical.axiomOfChoice h0
  exact ⟨fun c => (f c).1, fun c => (f c).2, hf⟩
theorem zx_arr1 {s : State} {args : Array Value} {ty : FieldType} (h : (Cond.arrayClass ty).before args s = true) : ∃ (cA : ClassId) (kA : Class) (comp : ClassId), s.vm.findClass ("[" ++ ty.toString) = some cA ∧ s.vm.classes[cA]? = some kA ∧ kA.kind = .array comp ty := by
  exact Cond.arrayClass_spec h
theorem zx_arr2 {s : State} {args : Array Value} {C : String} (h : (Cond.arrayOver (.object C)).before args s = true) : ∃ (cA : ClassId) (kA : Class) (comp : ClassId), s.vm.findClass ("[" ++ (FieldType.object C).toString) = some cA ∧ s.vm.classes[cA]? = some kA ∧ kA.kind = .array comp (.object C) ∧ s.vm.findClass C = some comp := by
  obtain ⟨comp, c, k, h1, h2, h3, h4, h5⟩ := Cond.arrayOver_spec h
  exact ⟨c, k, comp, h5, h3, h4, h1⟩
theorem zx_arr {s : State} {b : Nat} (hts : ∀ w ∈ lw_tbl, w.before #[Value.ref b] s = true) : ∃ cls : Nat → ClassId, ∀ (k : Nat) (q : ClassId × FieldType), [(cls 0, (.int : FieldType)), (cls 0, (.int : FieldType)), (cls 2, (.boolean : FieldType)), (cls 3, (.byte : FieldType)), (cls 4, (.object "PromiseMarket$Promise" : FieldType)), (cls 5, (.object "PromiseMarket$Process" : FieldType)), (cls 6, (.object "PromiseMarket$State" : FieldType))][k]? = some q → ArrOfT s q.1 q.2 ∧ va_RA s q.1 q.2 := by
  obtain ⟨c0, k0, p0, f0, g0, e0⟩ := zx_arr1 (ty := .int) (hts _ (List.mem_append_right _ (List.mem_of_getElem? (i := 157) (by decide +kernel))))
  obtain ⟨c2, k2, p2, f2, g2, e2⟩ := zx_arr1 (ty := .boolean) (hts _ (List.mem_append_right _ (List.mem_of_getElem? (i := 302) (by decide +kernel))))
  obtain ⟨c3, k3, p3, f3, g3, e3⟩ := zx_arr1 (ty := .byte) (hts _ (List.mem_append_right _ (List.mem_of_getElem? (i := 303) (by decide +kernel))))
  obtain ⟨c4, k4, p4, f4, g4, e4, o4⟩ := zx_arr2 (C := "PromiseMarket$Promise") (hts _ (List.mem_append_right _ (List.mem_of_getElem? (i := 45) (by decide +kernel))))
  obtain ⟨c5, k5, p5, f5, g5, e5, o5⟩ := zx_arr2 (C := "PromiseMarket$Process") (hts _ (List.mem_append_right _ (List.mem_of_getElem? (i := 139) (by decide +kernel))))
  obtain ⟨c6, k6, p6, f6, g6, e6, o6⟩ := zx_arr2 (C := "PromiseMarket$State") (hts _ (List.mem_append_right _ (List.mem_of_getElem? (i := 261) (by decide +kernel))))
  refine ⟨fun j => if j = 0 then c0 else if j = 2 then c2 else if j = 3 then c3 else if j = 4 then c4 else if j = 5 then c5 else c6, fun k q hq => ?_⟩
  match k with
  | 0 => cases hq; exact ⟨fun n z => ⟨fun k h => (by cases h), k0, g0, p0, e0⟩, f0⟩
  | 1 => cases hq; exact ⟨fun n z => ⟨fun k h => (by cases h), k0, g0, p0, e0⟩, f0⟩
  | 2 => cases hq; exact ⟨fun n z => ⟨fun k h => (by cases h), k2, g2, p2, e2⟩, f2⟩
  | 3 => cases hq; exact ⟨fun n z => ⟨fun k h => (by cases h), k3, g3, p3, e3⟩, f3⟩
  | 4 => cases hq; exact ⟨fun n z => ⟨fun k h => (by cases h), k4, g4, p4, e4⟩, ⟨k4, p4, g4, e4, o4, f4⟩⟩
  | 5 => cases hq; exact ⟨fun n z => ⟨fun k h => (by cases h), k5, g5, p5, e5⟩, ⟨k5, p5, g5, e5, o5, f5⟩⟩
  | 6 => cases hq; exact ⟨fun n z => ⟨fun k h => (by cases h), k6, g6, p6, e6⟩, ⟨k6, p6, g6, e6, o6, f6⟩⟩
  | n + 7 => cases hq
theorem zx_tok {s : State} {b : Nat} (hts : ∀ w ∈ lw_tbl, w.before #[Value.ref b] s = true) (hg : (Jvm.Cond.and given_1 narrow_1).before #[Value.ref b] s = true) : ∃ ad : Nat → Nat, va_En "PromiseMarket$Token" "LPromiseMarket$Token;" ["END"] [] ad (fun q => s.heap.size ≤ q) s s.heap := by
  have hs := flat_of_before _ hg
  refine va_Enof (args := #[Value.ref b]) (fun i hi => ?_) (hts _ (List.mem_append_right _ (List.mem_of_getElem? (i := 9) (by decide +kernel)))) (fun i hi => ?_) (fun q hq => nomatch hq) (fun i j hi hj hij => ?_) (fun a ha => Nat.not_le.mpr ha)
  · have hi : i < 1 := hi
    obtain rfl : i = 0 := by omega
    exact (hts _ (List.mem_append_right _ (List.mem_of_getElem? (i := 275) (by decide +kernel))))
  · have hi : i < 1 := hi
    obtain rfl : i = 0 := by omega
    exact hs _ (by decide +kernel)
  · have hi : i < 1 := hi
    have hj : j < 1 := hj
    exact absurd (by omega) hij
theorem zx_start {s : State} {b L : Nat} {xs : Nat → Int32} (hts : ∀ w ∈ lw_tbl, w.before #[Value.ref b] s = true) (hg : (Jvm.Cond.and given_1 narrow_1).before #[Value.ref b] s = true) (hX : va_X b L xs s s.heap) (hb : b < s.heap.size) : ∃ w : xW, zPl w (s.heap.size + 1) ∧ w.2.2.2.1 = s.heap.size ∧ w.2.2.2.2.2.1 = L ∧ w.1 52 0 = b ∧ xSta w s s.heap ∧ zNw s := by
  have hs := flat_of_before _ hg
  have hA : ∀ a : Nat, a < s.heap.size → ¬ s.heap.size ≤ a := fun a ha => Nat.not_le.mpr ha
  obtain ⟨dC, dI, hcl⟩ := zx_cls hts
  obtain ⟨cls, har⟩ := zx_arr hts
  obtain ⟨adT, hT⟩ := zx_tok hts hg
  obtain ⟨a6, e6⟩ := zx_str (args := #[Value.ref b]) (s := s) (t := .string "PromiseMarket$State" 83) (hs _ (by decide +kernel))
  obtain ⟨a7, e7⟩ := zx_str (args := #[Value.ref b]) (s := s) (t := .string "PromiseMarket$Timeline" 31) (hs _ (by decide +kernel))
  obtain ⟨a8, e8⟩ := zx_str (args := #[Value.ref b]) (s := s) (t := .string "PromiseMarket" 250) (hs _ (by decide +kernel))
  obtain ⟨a9, e9⟩ := zx_str (args := #[Value.ref b]) (s := s) (t := .string "PromiseMarket" 257) (hs _ (by decide +kernel))
  let ad : Nat → Nat → Nat := fun k j => if k < 50 then zad (s.heap.size + 1) k j else if k = 50 then adT j else if k = 51 then (if j = 6 then a6 else if j = 7 then a7 else if j = 8 then a8 else a9) else b
  have hR : ∀ q ∈ xstr, vk_R q.1 q.2.1 q.2.2.1 (ad 51 q.2.2.2) s := by
    intro q hq
    unfold xstr at hq
    simp only [List.mem_cons, List.not_mem_nil, or_false] at hq
    rcases hq with rfl | rfl | rfl | rfl
    · exact vk_R.of (A := #[Value.ref b]) (hts _ (List.mem_append_right _ (List.mem_of_getElem? (i := 514) (by decide +kernel)))) e6
    · exact vk_R.of (A := #[Value.ref b]) (hts _ (List.mem_append_right _ (List.mem_of_getElem? (i := 641) (by decide +kernel)))) e7
    · exact vk_R.of (A := #[Value.ref b]) (hts _ (List.mem_append_right _ (List.mem_of_getElem? (i := 408) (by decide +kernel)))) e8
    · exact vk_R.of (A := #[Value.ref b]) (hts _ (List.mem_append_right _ (List.mem_of_getElem? (i := 478) (by decide +kernel)))) e9
  refine ⟨(ad, (dC, dI), cls, s.heap.size, fun _ => 0, L, xs), fun k j hk => if_pos hk, rfl, rfl, rfl, ⟨⟨hcl, har⟩, Nat.le_refl _, ⟨hT, hX, hb⟩, ⟨trivial, hR, trivial, trivial⟩, ⟨vx_Zqof (args := #[Value.ref b]) (hts _ (List.mem_append_right _ (List.mem_of_getElem? (i := 394) (by decide +kernel)))) (hts _ (List.mem_append_right _ (List.mem_of_getElem? (i := 10) (by decide +kernel)))) (hs _ (by decide +kernel)) hA, vx_Zqof (args := #[Value.ref b]) (hts _ (List.mem_append_right _ (List.mem_of_getElem? (i := 396) (by decide +kernel)))) (hts _ (List.mem_append_right _ (List.mem_of_getElem? (i := 10) (by decide +kernel)))) (hs _ (by decide +kernel)) hA⟩, ?_, ?_, ?_, ?_⟩, ?_, ?_⟩
  · intro q hq
    unfold xcast at hq
    simp only [List.mem_cons, List.not_mem_nil, or_false] at hq
    rcases hq with rfl | rfl | rfl
    · exact va_Nw.of rfl (hts _ (List.mem_append_right _ (List.mem_of_getElem? (i := 507) (by decide +kernel))))
    · exact va_Nw.of rfl (hts _ (List.mem_append_right _ (List.mem_of_getElem? (i := 369) (by decide +kernel))))
    · exact va_Nw.of rfl (hts _ (List.mem_append_right _ (List.mem_of_getElem? (i := 471) (by decide +kernel))))
  · intro q hq
    unfold xdecl at hq
    simp only [List.mem_cons, List.not_mem_nil, or_false] at hq
    rcases hq with rfl | rfl | rfl
    · exact va_Nw.of rfl (hts _ (List.mem_append_right _ (List.mem_of_getElem? (i := 371) (by decide +kernel))))
    · exact va_Nw.of rfl (hts _ (List.mem_append_right _ (List.mem_of_getElem? (i := 373) (by decide +kernel))))
    · exact va_Nw.of rfl (hts _ (List.mem_append_right _ (List.mem_of_getElem? (i := 375) (by decide +kernel))))
  · intro q hq
    exact absurd hq List.not_mem_nil
  · intro q hq
    unfold xnot at hq
    simp only [List.mem_cons, List.not_mem_nil, or_false] at hq
    rcases hq with rfl | rfl | rfl
    · exact va_Nc.of (args := #[Value.ref b]) (hs _ (by decide +kernel))
    · exact va_Nc.of (args := #[Value.ref b]) (hs _ (by decide +kernel))
    · exact va_Nc.of (args := #[Value.ref b]) (hs _ (by decide +kernel))
  · intro q hq
    unfold znest at hq
    simp only [List.mem_cons, List.not_mem_nil, or_false] at hq
    rcases hq with rfl | rfl | rfl | rfl
    · exact va_Nw.of rfl (hts _ (List.mem_append_right _ (List.mem_of_getElem? (i := 47) (by decide +kernel))))
    · exact va_Nw.of rfl (hts _ (List.mem_append_right _ (List.mem_of_getElem? (i := 142) (by decide +kernel))))
    · exact va_Nw.of rfl (hts _ (List.mem_append_right _ (List.mem_of_getElem? (i := 159) (by decide +kernel))))
    · exact va_Nw.of rfl (hts _ (List.mem_append_right _ (List.mem_of_getElem? (i := 266) (by decide +kernel))))
  · intro q hq
    unfold zarr at hq
    simp only [List.mem_cons, List.not_mem_nil, or_false] at hq
    rcases hq with rfl | rfl | rfl
    · exact va_AO.of (hts _ (List.mem_append_right _ (List.mem_of_getElem? (i := 45) (by decide +kernel))))
    · exact va_AO.of (hts _ (List.mem_append_right _ (List.mem_of_getElem? (i := 139) (by decide +kernel))))
    · exact va_AO.of (hts _ (List.mem_append_right _ (List.mem_of_getElem? (i := 261) (by decide +kernel))))
