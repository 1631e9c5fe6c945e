/-! rows of the abstract machine, on: throws, statics, texts, Math, copies, floating point, switches, the script -/
theorem xst0 {l : Launch} (h : l.flags = flags0) : l.stackTraces = false := by
  unfold Launch.stackTraces
  rw [h]
  decide +kernel
section XM
variable {w : xW} {mi : xM} {TG : xT} {k n pc pc' : Nat} {L st : List xV} {S : xS} {A : Option xV → xS → Prop} {B : String → xS → Prop}
theorem xt_words {args : Array Value} {s : State} {own cls : String} {ic : Nat} {names : List String} (hts : ∀ w ∈ xtb, w.before args s = true) (hSt : xSta w s s.heap) (h1 : ∀ z ∈ (vx_atS own ic cls names).filter goodWord, z ∈ xtb) (h2 : ∀ z ∈ (vx_atS own ic cls names).filter (fun z => !goodWord z), z ∈ xcast.map (fun q => Cond.castable q.1 q.2) ++ xdecl.map (fun q => Cond.declares q)) :
    ∀ z ∈ vx_atS own ic cls names, z.before args s = true := by
  refine vx_hat (B := xcast.map (fun q => Cond.castable q.1 q.2) ++ xdecl.map (fun q => Cond.declares q)) (fun z hz => hts z (h1 z hz)) h2 (fun z hz => ?_)
  obtain ⟨d1, d2, -⟩ := hSt.2.2.2.2.2
  rcases List.mem_append.mp hz with h | h
  · obtain ⟨q, hq, rfl⟩ := List.mem_map.mp h
    exact va_Nw.use rfl (d1 q hq)
  · obtain ⟨q, hq, rfl⟩ := List.mem_map.mp h
    exact va_Nw.use rfl (d2 q hq)
theorem xa_throwS {p1 p2 p3 p4 p5 ik is ic sn : Nat} {cls text : String} {names : List String} (d0 : xd mi.2.1 pc (.new ik) 3 p1) (d3 : xd mi.2.1 p1 .dup 1 p2) (d4 : xd mi.2.1 p2 (.ldc is) 2 p3) (d6 : xd mi.2.1 p3 (.invokespecial ic) 3 p4) (d9 : xd mi.2.1 p4 .athrow 1 p5)
    (hcls : Bundle.fit cls = true) (hnames : ∀ q ∈ names, Bundle.fit q = true) (hk : Cond.classLink mi.1 ik cls ∈ xtb) (hini : Cond.initialized cls ∈ xtb) (hstr : (mi.1, is, text, sn) ∈ xstr) (h1 : ∀ z ∈ (vx_atS mi.1 ic cls names).filter goodWord, z ∈ xtb) (h2 : ∀ z ∈ (vx_atS mi.1 ic cls names).filter (fun z => !goodWord z), z ∈ xcast.map (fun q => Cond.castable q.1 q.2) ++ xdecl.map (fun q => Cond.declares q))
    (hgood : ∀ z ∈ Cond.classLink mi.1 ik cls :: Cond.initialized cls :: vx_atS mi.1 ic cls names, vx_ot z = true) (hh : mi.2.2.2.2.1 = []) (hfr : names.length + 3 < mi.2.2.2.2.2.1) (hlo : 13 * (names.length + 1) + 43 ≤ mi.2.2.2.2.2.2) (hk1 : 1 ≤ k) (hn6 : 6 ≤ n) (hq : B cls S) : X w mi (xTG w A B) k n pc L [] S := by
  obtain ⟨d0, rfl⟩ := d0; obtain ⟨d3, rfl⟩ := d3; obtain ⟨d4, rfl⟩ := d4; obtain ⟨d6, rfl⟩ := d6; obtain ⟨d9, -⟩ := d9
  intro p l e R s m args below meth c H locs cells slots MC MS ls hC hB hR hS hl hL hst
  have hSt := hC.2.2.2.2.2.2.2.2.2.2
  refine vx_throwS (names := names) (A := xfr w) hC.1 hC.2.1 (xst0 hC.2.2.2.2.2.2.2.2.2.1) hC.2.2.2.2.1 hcls hnames (hC.2.2.2.2.2.1 _ hk) (hC.2.2.2.2.2.1 _ hini) (hSt.2.2.2.1.2.1 _ hstr) (xt_words hC.2.2.2.2.2.1 hSt h1 h2) hgood hSt.2.2.2.2.1.1 hSt.2.2.2.2.1.2 hS (by rw [hl.2.1]; exact hC.2.2.2.1.symm)
    d0 d3 d4 d6 d9 (fun x hx => ?_) (Nat.lt_of_lt_of_le hfr hC.2.2.2.2.2.2.2.2.1.1) (by show 0 + _ ≤ _; have := hC.2.2.2.2.2.2.2.2.1.2; omega) (by omega) (by omega) hC.2.2.2.2.2.2.1 (fun t hvm hz hk9 => ⟨⟨S, hq, ?_⟩, Nat.le_trans hS.1 hz, fun a h3 h4 => ?_⟩) hS.2.2 (by omega) (by omega)
  · rw [hC.2.2.2.2.2.2.2.1, hh] at hx
    cases hx
  · exact ⟨hR.1.kept (fun i q hi => hk9 q.1 (hR.1 i q hi).lt), hR.2.1, hR.2.2⟩
  · rw [hk9 a (Nat.lt_of_lt_of_le h3 hS.1)]
    exact hS.2.1 a h3 h4
theorem xa_throwSW {p1 p2 p3 p4 p5 ik is ic sn : Nat} {cls text : String} {names : List String} (d0 : xd mi.2.1 pc (.new ik) 3 p1) (d3 : xd mi.2.1 p1 .dup 1 p2) (d4 : xd mi.2.1 p2 (.ldc_w is) 3 p3) (d6 : xd mi.2.1 p3 (.invokespecial ic) 3 p4) (d9 : xd mi.2.1 p4 .athrow 1 p5)
    (hcls : Bundle.fit cls = true) (hnames : ∀ q ∈ names, Bundle.fit q = true) (hk : Cond.classLink mi.1 ik cls ∈ xtb) (hini : Cond.initialized cls ∈ xtb) (hstr : (mi.1, is, text, sn) ∈ xstr) (h1 : ∀ z ∈ (vx_atS mi.1 ic cls names).filter goodWord, z ∈ xtb) (h2 : ∀ z ∈ (vx_atS mi.1 ic cls names).filter (fun z => !goodWord z), z ∈ xcast.map (fun q => Cond.castable q.1 q.2) ++ xdecl.map (fun q => Cond.declares q))
    (hgood : ∀ z ∈ Cond.classLink mi.1 ik cls :: Cond.initialized cls :: vx_atS mi.1 ic cls names, vx_ot z = true) (hh : mi.2.2.2.2.1 = []) (hfr : names.length + 3 < mi.2.2.2.2.2.1) (hlo : 13 * (names.length + 1) + 43 ≤ mi.2.2.2.2.2.2) (hk1 : 1 ≤ k) (hn6 : 6 ≤ n) (hq : B cls S) : X w mi (xTG w A B) k n pc L [] S := by
  obtain ⟨d0, rfl⟩ := d0; obtain ⟨d3, rfl⟩ := d3; obtain ⟨d4, rfl⟩ := d4; obtain ⟨d6, rfl⟩ := d6; obtain ⟨d9, -⟩ := d9
  intro p l e R s m args below meth c H locs cells slots MC MS ls hC hB hR hS hl hL hst
  have hSt := hC.2.2.2.2.2.2.2.2.2.2
  refine vx_throwSW (names := names) (A := xfr w) hC.1 hC.2.1 (xst0 hC.2.2.2.2.2.2.2.2.2.1) hC.2.2.2.2.1 hcls hnames (hC.2.2.2.2.2.1 _ hk) (hC.2.2.2.2.2.1 _ hini) (hSt.2.2.2.1.2.1 _ hstr) (xt_words hC.2.2.2.2.2.1 hSt h1 h2) hgood hSt.2.2.2.2.1.1 hSt.2.2.2.2.1.2 hS (by rw [hl.2.1]; exact hC.2.2.2.1.symm)
    d0 d3 d4 d6 d9 (fun x hx => ?_) (Nat.lt_of_lt_of_le hfr hC.2.2.2.2.2.2.2.2.1.1) (by show 0 + _ ≤ _; have := hC.2.2.2.2.2.2.2.2.1.2; omega) (by omega) (by omega) hC.2.2.2.2.2.2.1 (fun t hvm hz hk9 => ⟨⟨S, hq, ?_⟩, Nat.le_trans hS.1 hz, fun a h3 h4 => ?_⟩) hS.2.2 (by omega) (by omega)
  · rw [hC.2.2.2.2.2.2.2.1, hh] at hx
    cases hx
  · exact ⟨hR.1.kept (fun i q hi => hk9 q.1 (hR.1 i q hi).lt), hR.2.1, hR.2.2⟩
  · rw [hk9 a (Nat.lt_of_lt_of_le h3 hS.1)]
    exact hS.2.1 a h3 h4
end XM
