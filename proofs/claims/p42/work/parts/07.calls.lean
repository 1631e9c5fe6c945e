/-! methods: their contracts, how they are entered, how they end, how they are called -/
def xQc (w : xW) (A : Option xV → xS → Prop) : Array Value → State → Outcome → State → Prop := fun _ st o t => (∃ (v : Option xV) (S' : xS), o = .returned (v.map (xc w.1)) ∧ (∀ u, v = some u → xok u) ∧ A v S' ∧ xRep w S' t.heap) ∧ va_F (xfr w) st t
def xXc (w : xW) (B : String → xS → Prop) : String → State → State → Prop := fun E st t => (∃ S', B E S' ∧ xRep w S' t.heap) ∧ va_F (xfr w) st t
def xTG (w : xW) (A : Option xV → xS → Prop) (B : String → xS → Prop) : xT := fun below args s MC MS => vx_MQ below (xQc w A) (xXc w B) args s MC MS (xfr w)
def xw0 (mi : xM) (y : MethodName) : Cond := match mi.2.2.2.2.1 with
  | [] => .code y mi.2.1 mi.2.2.1 mi.2.2.2.1
  | h :: t => .codeWith y mi.2.1 mi.2.2.1 mi.2.2.2.1 (h :: t)
def xws (mi : xM) (y : MethodName) : List Cond := xw0 mi y :: xtb
def xrm (mi : xM) (k n : Nat) : Room := { frames := mi.2.2.2.2.2.1, cells := k, slots := n, locals := mi.2.2.2.2.2.2 }
def xPc (w : xW) (S : xS) : State → Prop := fun U => xRep w S U.heap ∧ xSta w U U.heap
/-- the contract: called with these values over this store it returns or throws, and A or B holds -/
def K (w : xW) (mi : xM) (y : MethodName) (k n : Nat) (as : List xV) (S : xS) (A : Option xV → xS → Prop) (B : String → xS → Prop) : Prop :=
  ∀ l : Launch, l.flags = flags0 → (∀ v ∈ as, xok v) → vx_Met l y (xws mi y) (xrm mi k n) (va_Pc (as.map (xc w.1)) (xPc w S)) (xQc w A) (xXc w B) k n (xfr w)
/-- the locals at the entry -/
def xent (as : List xV) : List xV := as.flatMap fun v => if xcat2 v then [v, xj] else [v]
theorem xcat_iff {ad : Nat → Nat → Nat} {v : xV} (hj : xjk v = false) : (xc ad v).category = 2 ↔ xcat2 v = true := by
  rcases v with (a | a) | (q | v)
  · simp [xc, Value.category, xcat2]
  · simp [xc, Value.category, xcat2]
  · simp [xc, Value.category, xcat2]
  · cases v <;> simp [xc, Value.category, xcat2]
theorem xpl_junk {ad : Nat → Nat → Nat} (m : Nat) : ∀ n, xpl ad n (List.replicate m xj) = [] := by
  induction m with
  | zero => intro n; rfl
  | succ m ih =>
    intro n
    rw [List.replicate_succ, xpl, if_pos (show xjk xj = true from rfl)]
    exact ih (n + 1)
theorem xent_pl {ad : Nat → Nat → Nat} {m : Nat} : ∀ (as : List xV) (n : Nat), (∀ v ∈ as, xjk v = false) → xpl ad n (xent as ++ List.replicate m xj) = lv_args n (as.map (xc ad)) := by
  intro as
  induction as with
  | nil => intro n _; exact xpl_junk m n
  | cons v vs ih =>
    intro n hj
    have h1 := hj v List.mem_cons_self
    have h2 : ∀ u ∈ vs, xjk u = false := fun u hu => hj u (List.mem_cons_of_mem _ hu)
    rw [List.map_cons, lv_args]
    by_cases hc : xcat2 v = true
    · rw [if_pos ((xcat_iff h1).mpr hc), ← ih (n + 2) h2]
      have e : xent (v :: vs) ++ List.replicate m xj = v :: xj :: (xent vs ++ List.replicate m xj) := by
        unfold xent
        rw [List.flatMap_cons, if_pos hc]
        rfl
      rw [e, xpl, if_neg (by rw [h1]; decide), xpl, if_pos (show xjk xj = true from rfl)]
    · rw [if_neg (fun q => hc ((xcat_iff h1).mp q)), ← ih (n + 1) h2]
      have e : xent (v :: vs) ++ List.replicate m xj = v :: (xent vs ++ List.replicate m xj) := by
        unfold xent
        rw [List.flatMap_cons, if_neg hc]
        rfl
      rw [e, xpl, if_neg (by rw [h1]; decide)]
theorem xent_len (ad : Nat → Nat → Nat) : ∀ (as : List xV), (∀ v ∈ as, xjk v = false) → (lg_sl (as.map (xc ad))).length = (xent as).length := by
  intro as
  induction as with
  | nil => intro _; rfl
  | cons v vs ih =>
    intro hj
    have h1 := hj v List.mem_cons_self
    have h2 : ∀ u ∈ vs, xjk u = false := fun u hu => hj u (List.mem_cons_of_mem _ hu)
    have h3 := ih h2
    unfold lg_sl xent at h3 ⊢
    rw [List.map_cons, List.flatMap_cons, List.flatMap_cons, List.length_append, List.length_append, h3]
    congr 1
    by_cases hc : xcat2 v = true
    · rw [if_pos ((xcat_iff h1).mpr hc), if_pos hc]; rfl
    · rw [if_neg (fun q => hc ((xcat_iff h1).mp q)), if_neg hc]; rfl
theorem xent_ok {as : List xV} {m : Nat} (h : ∀ v ∈ as, xok v) : ∀ v ∈ xent as ++ List.replicate m xj, xok v := by
  intro v hv
  rcases List.mem_append.mp hv with h1 | h1
  · obtain ⟨u, hu, h2⟩ := List.mem_flatMap.mp h1
    split at h2
    · rcases List.mem_cons.mp h2 with rfl | h2
      · exact h v hu
      · rw [List.mem_singleton.mp h2]; trivial
    · rw [List.mem_singleton.mp h2]; exact h u hu
  · rw [(List.mem_replicate.mp h1).2]; trivial
section XK
variable {w : xW} {mi : xM} {y : MethodName} {k n : Nat} {as L0 : List xV} {S : xS} {A : Option xV → xS → Prop} {B : String → xS → Prop}
theorem K.of (hy : plainName y.cls = true) (hh : mi.2.2.2.2.1 = []) (hc : y.cls = mi.1) (hj : as.all (fun v => !xjk v) = true) (hl : (xent as).length ≤ mi.2.2.1) (hL : xent as ++ List.replicate (mi.2.2.1 - (xent as).length) xj = L0)
    (body : X w mi (xTG w A B) k n 0 L0 [] S) : K w mi y k n as S A B := by
  intro l hf hok
  have hj2 : ∀ v ∈ as, xjk v = false := fun v hv => by simpa using List.all_eq_true.mp hj v hv
  have e0 : xw0 mi y = .code y mi.2.1 mi.2.2.1 mi.2.2.2.1 := by unfold xw0; rw [hh]
  refine vx_ofW (ws' := xtb) (cc := mi.2.1) (maxL := mi.2.2.1) (ret := mi.2.2.2.1) hy (by rw [xws, e0]) ?_
  intro p e s m args below meth c s₁ Bd hml hex hv
  obtain ⟨rfl, hR, hSt⟩ := hv
  have hts := atoms_spec (ws := xws mi y) Bd.pre
  rw [lg_entry_eq]
  have hlen := xent_len w.1 as hj2
  have hlh := lv_entry (as.map (xc w.1)) (n := mi.2.2.1) (by rw [hlen]; exact hl)
  have hcl : s.vm.findClass mi.1 = some m.cls := by rw [← hc]; exact findClass_of_methodNamed Bd.named
  have htab : c.exceptionTable.toList = tableOf mi.2.2.2.2.1 := by
    rw [hh]
    cases hz : c.exceptionTable.toList with
    | nil => rfl
    | cons a t => exact absurd (hex a (by rw [hz]; exact List.mem_cons_self)) id
  rw [← hL] at body
  exact body p l e _ s m _ below meth c s.heap [] 0 0 k n _ ⟨Bd.exec, Bd.bytes, Bd.returns, hml, hcl, fun z hz => hts z (List.mem_cons_of_mem _ hz), Bd.notSynchronized, htab, ⟨Nat.le_refl _, Nat.le_refl _⟩, hf, hSt⟩
    ⟨by omega, by omega, Nat.le_refl _, Nat.le_refl _⟩ hR va_S.rf ⟨by rw [List.length_append, List.length_replicate]; omega, by rw [xent_pl as 0 hj2]; exact hlh⟩ (xent_ok hok) (fun v hv => nomatch hv)
/-- a method with a table of its own -/
theorem K.ofH {h : Nat × Nat × Nat × Nat} {t : List (Nat × Nat × Nat × Nat)} (hy : plainName y.cls = true) (hh : mi.2.2.2.2.1 = h :: t) (hc : y.cls = mi.1) (hj : as.all (fun v => !xjk v) = true) (hl : (xent as).length ≤ mi.2.2.1) (hL : xent as ++ List.replicate (mi.2.2.1 - (xent as).length) xj = L0)
    (body : X w mi (xTG w A B) k n 0 L0 [] S) : K w mi y k n as S A B := by
  intro l hf hok
  have hj2 : ∀ v ∈ as, xjk v = false := fun v hv => by simpa using List.all_eq_true.mp hj v hv
  have e0 : xw0 mi y = .codeWith y mi.2.1 mi.2.2.1 mi.2.2.2.1 mi.2.2.2.2.1 := by unfold xw0; rw [hh]
  refine vx_ofWH (ws' := xtb) (cc := mi.2.1) (maxL := mi.2.2.1) (ret := mi.2.2.2.1) (hh := mi.2.2.2.2.1) hy (by rw [xws, e0]) ?_
  intro p e s m args below meth c s₁ Bd hml hv
  obtain ⟨rfl, hR, hSt⟩ := hv
  have hts := atoms_spec (ws := xws mi y) Bd.pre
  rw [lg_entry_eq]
  have hlen := xent_len w.1 as hj2
  have hlh := lv_entry (as.map (xc w.1)) (n := mi.2.2.1) (by rw [hlen]; exact hl)
  have hcl : s.vm.findClass mi.1 = some m.cls := by rw [← hc]; exact findClass_of_methodNamed Bd.named
  have htab : c.exceptionTable.toList = tableOf mi.2.2.2.2.1 := vx_table (x := y) Bd (hts (.codeWith y mi.2.1 mi.2.2.1 mi.2.2.2.1 mi.2.2.2.2.1) (by rw [xws, e0]; exact List.mem_cons_self))
  rw [← hL] at body
  exact body p l e _ s m _ below meth c s.heap [] 0 0 k n _ ⟨Bd.exec, Bd.bytes, Bd.returns, hml, hcl, fun z hz => hts z (List.mem_cons_of_mem _ hz), Bd.notSynchronized, htab, ⟨Nat.le_refl _, Nat.le_refl _⟩, hf, hSt⟩
    ⟨by omega, by omega, Nat.le_refl _, Nat.le_refl _⟩ hR va_S.rf ⟨by rw [List.length_append, List.length_replicate]; omega, by rw [xent_pl as 0 hj2]; exact hlh⟩ (xent_ok hok) (fun v hv => nomatch hv)
theorem K.imp {A2 : Option xV → xS → Prop} {B2 : String → xS → Prop} (h : K w mi y k n as S A B) (hA : ∀ v S', A v S' → A2 v S') (hB : ∀ E S', B E S' → B2 E S') : K w mi y k n as S A2 B2 := by
  intro l hf hok
  refine MetFree.mono (h l hf hok) (fun a s hp => hp) (fun _ _ _ _ _ hk => hk) (fun a st o t _ hq => ?_)
  rcases hq with ⟨⟨⟨v, S', h1, h2, h3, h4⟩, hF⟩, hL⟩ | ⟨q, h1, E, ce, L, ⟨⟨S', h3, h4⟩, hF⟩, h5⟩
  · exact Or.inl ⟨⟨⟨v, S', h1, h2, hA v S' h3, h4⟩, hF⟩, hL⟩
  · exact Or.inr ⟨q, h1, E, ce, L, ⟨⟨S', hB E S' h3, h4⟩, hF⟩, h5⟩
end XK
section XE
variable {w : xW} {mi : xM} {k n pc pc' : Nat} {L st : List xV} {S : xS} {A : Option xV → xS → Prop} {B : String → xS → Prop}
theorem xa_vret (h : xd mi.2.1 pc .return_ 1 pc') (hr : mi.2.2.2.1 = none) (hq : A none S) : X w mi (xTG w A B) k n pc L [] S := by
  obtain ⟨hd, rfl⟩ := h
  intro p l e R s m args below meth c H locs cells slots MC MS ls hC hB hR hS hl hL hst
  refine W.widen (k := MC) (n := MS) (by omega) (by omega) (vx_ret ?_)
  exact W.vret hC.1 hC.2.1 (hC.2.2.1.trans hr) (fun t ht hW => ⟨⟨none, S, rfl, fun u e => (nomatch e), hq, by rw [ht]; exact hR⟩, hS.F ht⟩) hS.2.2 hd hC.2.2.2.2.2.2.1
theorem xa_iret {a : Int} (h : xd mi.2.1 pc .ireturn 1 pc') (hr : mi.2.2.2.1 = some .int) (hq : A (some (xi a)) S) : X w mi (xTG w A B) k n pc L [xi a] S := by
  obtain ⟨hd, rfl⟩ := h
  intro p l e R s m args below meth c H locs cells slots MC MS ls hC hB hR hS hl hL hst
  refine W.widen (k := MC) (n := MS) (by omega) (by omega) (vx_ret ?_)
  exact W.iret (v := Int32.ofInt a) hC.1 hC.2.1 (hC.2.2.1.trans hr) (fun t ht hW => ⟨⟨some (xi a), S, rfl, fun u e => by cases e; trivial, hq, by rw [ht]; exact hR⟩, hS.F ht⟩) hS.2.2 hd hC.2.2.2.2.2.2.1
theorem xa_zret {a : Int} (h : xd mi.2.1 pc .ireturn 1 pc') (hr : mi.2.2.2.1 = some .boolean) (ha : a = 0 ∨ a = 1) (hq : A (some (xi a)) S) : X w mi (xTG w A B) k n pc L [xi a] S := by
  obtain ⟨hd, rfl⟩ := h
  intro p l e R s m args below meth c H locs cells slots MC MS ls hC hB hR hS hl hL hst
  refine W.widen (k := MC) (n := MS) (by omega) (by omega) (vx_ret ?_)
  exact W.zret (v := Int32.ofInt a) hC.1 hC.2.1 (hC.2.2.1.trans hr) (by rcases ha with rfl | rfl <;> decide) (fun t ht hW => ⟨⟨some (xi a), S, rfl, fun u e => by cases e; trivial, hq, by rw [ht]; exact hR⟩, hS.F ht⟩) hS.2.2 hd hC.2.2.2.2.2.2.1
theorem xa_lret {a : Int} (h : xd mi.2.1 pc .lreturn 1 pc') (hr : mi.2.2.2.1 = some .long) (hq : A (some (xl a)) S) : X w mi (xTG w A B) k n pc L [xl a] S := by
  obtain ⟨hd, rfl⟩ := h
  intro p l e R s m args below meth c H locs cells slots MC MS ls hC hB hR hS hl hL hst
  refine W.widen (k := MC) (n := MS) (by omega) (by omega) (vx_ret ?_)
  exact W.lret (v := Int64.ofInt a) hC.1 hC.2.1 (hC.2.2.1.trans hr) (fun t ht hW => ⟨⟨some (xl a), S, rfl, fun u e => by cases e; trivial, hq, by rw [ht]; exact hR⟩, hS.F ht⟩) hS.2.2 hd hC.2.2.2.2.2.2.1
theorem xa_fret {a : UInt32} (h : xd mi.2.1 pc .freturn 1 pc') (hr : mi.2.2.2.1 = some .float) (hq : A (some (xv (.float a))) S) : X w mi (xTG w A B) k n pc L [xv (.float a)] S := by
  obtain ⟨hd, rfl⟩ := h
  intro p l e R s m args below meth c H locs cells slots MC MS ls hC hB hR hS hl hL hst
  refine W.widen (k := MC) (n := MS) (by omega) (by omega) (vx_ret ?_)
  exact W.fret (v := a) hC.1 hC.2.1 (hC.2.2.1.trans hr) (fun t ht hW => ⟨⟨some (xv (.float a)), S, rfl, fun u e => by cases e; trivial, hq, by rw [ht]; exact hR⟩, hS.F ht⟩) hS.2.2 hd hC.2.2.2.2.2.2.1
theorem xa_dret {a : UInt64} (h : xd mi.2.1 pc .dreturn 1 pc') (hr : mi.2.2.2.1 = some .double) (hq : A (some (xv (.double a))) S) : X w mi (xTG w A B) k n pc L [xv (.double a)] S := by
  obtain ⟨hd, rfl⟩ := h
  intro p l e R s m args below meth c H locs cells slots MC MS ls hC hB hR hS hl hL hst
  refine W.widen (k := MC) (n := MS) (by omega) (by omega) (vx_ret ?_)
  exact W.dret (v := a) hC.1 hC.2.1 (hC.2.2.1.trans hr) (fun t ht hW => ⟨⟨some (xv (.double a)), S, rfl, fun u e => by cases e; trivial, hq, by rw [ht]; exact hR⟩, hS.F ht⟩) hS.2.2 hd hC.2.2.2.2.2.2.1
theorem xa_aret {x z : Nat} {C : String} (h : xd mi.2.1 pc .areturn 1 pc') (hr : mi.2.2.2.1 = some (.object C)) (hq : A (some (xp x z)) S) : X w mi (xTG w A B) k n pc L [xp x z] S := by
  obtain ⟨hd, rfl⟩ := h
  intro p l e R s m args below meth c H locs cells slots MC MS ls hC hB hR hS hl hL hst
  refine W.widen (k := MC) (n := MS) (by omega) (by omega) (vx_ret ?_)
  exact W.aret (v := .ref (w.1 x z)) hC.1 hC.2.1 (hC.2.2.1.trans hr) (Or.inl ⟨_, rfl⟩) (Or.inr ⟨_, rfl⟩) (fun t ht hW => ⟨⟨some (xp x z), S, rfl, fun u e => by cases e; exact (xok_cons hst).1, hq, by rw [ht]; exact hR⟩, hS.F ht⟩) hS.2.2 hd hC.2.2.2.2.2.2.1
theorem xa_aretN {C : String} (h : xd mi.2.1 pc .areturn 1 pc') (hr : mi.2.2.2.1 = some (.object C)) (hq : A (some (xv .null)) S) : X w mi (xTG w A B) k n pc L [xv .null] S := by
  obtain ⟨hd, rfl⟩ := h
  intro p l e R s m args below meth c H locs cells slots MC MS ls hC hB hR hS hl hL hst
  refine W.widen (k := MC) (n := MS) (by omega) (by omega) (vx_ret ?_)
  exact W.aret (v := .null) hC.1 hC.2.1 (hC.2.2.1.trans hr) (Or.inl ⟨_, rfl⟩) (Or.inl rfl) (fun t ht hW => ⟨⟨some (xv .null), S, rfl, fun u e => by cases e; trivial, hq, by rw [ht]; exact hR⟩, hS.F ht⟩) hS.2.2 hd hC.2.2.2.2.2.2.1
end XE
section XC
variable {w : xW} {mi mi' : xM} {TG : xT} {k n k1 n1 pc pc' : Nat} {L st as : List xV} {S : xS} {y : MethodName} {A : Option xV → xS → Prop} {B : String → xS → Prop}
theorem xPc_blind {av : List Value} : FrameBlind (va_Pc av (xPc w S)) := fun a U g mk q => ⟨q.1, q.2.1, (q.2.2).moved (State.WarmedH.refl U)⟩
theorem xPc_at {s : State} {H : Heap} {locs : List Loc} (hR : xRep w S H) (hSt : xSta w s s.heap) (hS : va_S (xfr w) s.heap H locs) (U : State) (hU : U.heap = H) (hW : s.WarmedH U.vm) : xPc w S U := by
  refine ⟨by rw [hU]; exact hR, ?_⟩
  rw [hU]
  exact (hSt.kept hS.1 hS.2.1).moved hW
/-- behind a call -/
theorem xa_run {p : Program} {l : Launch} {e : Env} {R : Room} {s : State} {m : MethodId} {args : Array Value} {below : List Frame} {meth : Method} {c : Code} {H : Heap} {locs : List Loc} {cells slots MC MS : Nat} {ls : Array Slot} {st0 : List Value} {a : Array Value}
    (hC : xCx w mi p l R s m args meth c) (hB : cells + k ≤ MC ∧ slots + n ≤ MS ∧ MC ≤ R.cells ∧ MS ≤ R.slots) (hS : va_S (xfr w) s.heap H locs) (hl : xlh w.1 ls mi.2.2.1 L) (hL : ∀ v ∈ L, xok v) (hst : ∀ v ∈ st, xok v) (hk : k1 ≤ k ∧ n1 ≤ n)
    (hr : vx_Run p l e R s m args below meth c H locs cells slots k1 n1 (F0 m pc ls st0) (st.map (xc w.1)) (xQc w A a) (xXc w B) (xfr w))
    (hA : ∀ v S', A v S' → X w mi TG (k - k1) (n - n1) (pc + 3) L (v.toList ++ st) S') (hX : ∀ E S', B E S' → XT w mi TG (k - k1) (n - n1) pc L st E S') :
    W p l e R s m args below meth c H locs cells slots (TG below args s MC MS) (F0 m pc ls st0) := by
  intro T hT X0
  rcases hr T hT X0 with ⟨v, st₀, t, T', Lc, h0, X', hL', e1, e2, ⟨⟨v', S', hv, hok, hA', hR'⟩, hF⟩, st'⟩ | ⟨q, st₀, t, T', Lc, E, ce, h0, X', hL', e1, e2, ⟨⟨S', hB', hR'⟩, hF⟩, hce, hcv, hcl, st'⟩
  · cases hv
    obtain ⟨k1', k2', k3'⟩ := vx_keep h0 e1 hS (fun _ _ h => h) (fun _ h => h) hL' hF
    have hst2 : ∀ u ∈ v'.toList ++ st, xok u := by
      intro u hu
      rcases List.mem_append.mp hu with h | h
      · exact hok u (by cases v' with
          | none => cases h
          | some z => rw [List.mem_singleton.mp h])
      · exact hst u h
    obtain ⟨t2, a1, b1⟩ := hA v' S' hA' p l e R s m args below meth c T'.heap (locs ++ Lc) (cells + k1) (slots + n1) MC MS ls hC (by omega) (by rw [e1]; exact hR') k3' hl hL hst2 T' rfl X'
    have e9 : (v'.toList ++ st).map (xc w.1) = (v'.map (xc w.1)).toList ++ st.map (xc w.1) := by cases v' <;> rfl
    rw [e9] at a1
    exact ⟨t2, st' t2 a1, b1⟩
  · obtain ⟨k1', k2', k3'⟩ := vx_keep h0 e1 hS (fun _ _ h => h) (fun _ h => h) hL' hF
    obtain ⟨t2, a1, b1⟩ := hX E S' hB' p l e R s m args below meth c T'.heap (locs ++ Lc) (cells + k1) (slots + n1) MC MS ls q ce hC (by omega) (by rw [e1]; exact hR') k3' hl hL hst (by rw [e1]; exact hce) hcv hcl T' rfl X'
    exact ⟨t2, st'.trans a1, b1⟩
/-- what a call asks of names and room -/
def xcl (mi mi' : xM) (y : MethodName) (n : Nat) : Prop := (y.cls ≠ "java/lang/invoke/MethodHandle" ∧ y.cls ≠ "java/lang/invoke/VarHandle" ∧ (parseMethodDescriptor y.desc).map (fun d => d.parameters.length) = some n) ∧ mi'.2.2.2.2.2.1 + 1 ≤ mi.2.2.2.2.2.1 ∧ 8 + (mi'.2.2.1 + 11) + mi'.2.2.2.2.2.2 ≤ mi.2.2.2.2.2.2
theorem xa_callV {x z idx N ci : Nat} {T : u_T} {fs : (Nat → Int) → List Value} (h : xd mi.2.1 pc (.invokevirtual idx) 3 pc') (hw : ∀ u ∈ [Cond.methodLink mi.1 idx y, .instanceMethod y, .selects y.cls y y, .initialized y.cls, .code y mi'.2.1 mi'.2.2.1 mi'.2.2.2.1], u ∈ xtb) (hh : mi'.2.2.2.2.1 = []) (hcl : xcl mi mi' y as.length) (hx : x < 50) (hce : ∀ F, xce w x z F = .inr (ci, fs F)) (hc : vwCl[ci]? = some (y.cls, T, N))
    (hsum : (st.map fun v => if xcat2 v then 2 else 1).sum ≤ 8) (hk : k1 ≤ k ∧ n1 ≤ n) (hK : K w mi' y k1 n1 (xp x z :: as) S A B)
    (hA : ∀ v S', A v S' → X w mi TG (k - k1) (n - n1) pc' L (v.toList ++ st) S') (hX : ∀ E S', B E S' → XT w mi TG (k - k1) (n - n1) pc L st E S') (hj : st.all (fun v => !xjk v) = true) : X w mi TG k n pc L (as.reverse ++ xp x z :: st) S := by
  obtain ⟨hd, rfl⟩ := h
  intro p l e R s m args below meth c H locs cells slots MC MS ls hC hB hR hS hl hL hst
  have hok : ∀ v ∈ xp x z :: as, xok v := fun v hv => hst v (by
    rcases List.mem_cons.mp hv with h | h
    · exact List.mem_append_right _ (by rw [h]; exact List.mem_cons_self)
    · exact List.mem_append_left _ (List.mem_reverse.mpr h))
  have hst2 : ∀ v ∈ st, xok v := fun v hv => hst v (List.mem_append_right _ (List.mem_cons_of_mem _ hv))
  have hxz : xval x z = true := hok _ List.mem_cons_self
  obtain ⟨i, -, hi⟩ := xwl_at hxz hx
  have e0 : xw0 mi' y = .code y mi'.2.1 mi'.2.2.1 mi'.2.2.2.1 := by unfold xw0; rw [hh]
  have hG : GoodIn xtb (wsV mi.1 idx y.cls y (xws mi' y)) := by
    intro u hu
    have h9 : u ∈ xtb := by
      unfold wsV xws at hu
      rw [e0] at hu
      rcases List.mem_append.mp hu with h | h
      · exact hw u (by simp only [List.mem_cons, List.not_mem_nil, or_false] at h ⊢; rcases h with h | h | h | h <;> simp [h])
      · rcases List.mem_cons.mp h with h | h
        · exact hw u (by rw [h]; simp)
        · exact h
    exact xtb_good (fun _ h => h) u h9
  have hrc := hcl.2
  refine xa_run (k1 := k1) (n1 := n1) (a := (Value.ref (w.1 x z) :: as.map (xc w.1)).toArray) hC hB hS hl hL hst2 hk ?_ hA hX
  refine vx_runV (As := as.map (xc w.1)) (rest := st.map (xc w.1)) (b := w.1 x z) (C := y.cls) (index := idx) (maxL := mi'.2.2.1) (ret := mi'.2.2.2.1) (bytes := mi'.2.1) (n := as.length) (nL := mi.2.2.1) (cc := mi.2.1) (own := mi.1) (Ts := xtb) ⟨hC.1, hC.2.1, hC.2.2.2.1, hC.2.2.2.2.1, hC.2.2.2.2.2.1⟩ (hK l hC.2.2.2.2.2.2.2.2.2.1 hok)
    (cwV (ws' := xtb) as.length hC.2.2.2.2.2.1 hG (by rw [xws, e0]) rfl rfl ⟨rfl, hcl.1⟩ ⟨Nat.le_trans hrc.1 hC.2.2.2.2.2.2.2.2.1.1, Nat.le_trans hrc.2 hC.2.2.2.2.2.2.2.2.1.2⟩)
    ⟨xPc_blind, va_recv (D := w.2.1) (ws := xwl w S) (tys := xtys w) (q0 := i) hC.2.2.2.2.2.2.2.2.2.2.1 hR.1 hc ((hi w S).trans (by rw [hce])), fun U hU hW => ⟨rfl, xPc_at hR hC.2.2.2.2.2.2.2.2.2.2 hS U hU hW⟩⟩ rfl (List.length_map _) hl.2.1 ?_ ?_ hd ?_
  · show List.map (xc w.1) (as.reverse ++ xp x z :: st) = _
    rw [List.map_append, List.map_reverse]
    rfl
  · show 2 * 0 + _ ≤ 8
    rw [List.map_map]
    have e9 : ∀ v ∈ st, ((fun v => v.category) ∘ xc w.1) v = if xcat2 v then 2 else 1 := by
      intro v hv
      have hjv : xjk v = false := by simpa using List.all_eq_true.mp hj v hv
      show (xc w.1 v).category = _
      by_cases q : xcat2 v = true
      · rw [if_pos q]; exact (xcat_iff hjv).mpr q
      · rw [if_neg q]; exact xn_cat1 (by simpa using q)
    rw [List.map_congr_left e9]
    omega
  · omega
theorem xa_callS {idx : Nat} (h : xd mi.2.1 pc (.invokestatic idx) 3 pc') (hw : ∀ u ∈ [Cond.methodLink mi.1 idx y, .static y, .initialized mi.1, .code y mi'.2.1 mi'.2.2.1 mi'.2.2.2.1], u ∈ xtb) (hh : mi'.2.2.2.2.1 = []) (hown : y.cls = mi.1) (hcl : xcl mi mi' y as.length)
    (hsum : (st.map fun v => if xcat2 v then 2 else 1).sum ≤ 8) (hk : k1 ≤ k ∧ n1 ≤ n) (hK : K w mi' y k1 n1 as S A B)
    (hA : ∀ v S', A v S' → X w mi TG (k - k1) (n - n1) pc' L (v.toList ++ st) S') (hX : ∀ E S', B E S' → XT w mi TG (k - k1) (n - n1) pc L st E S') (hj : st.all (fun v => !xjk v) = true) : X w mi TG k n pc L (as.reverse ++ st) S := by
  obtain ⟨hd, rfl⟩ := h
  intro p l e R s m args below meth c H locs cells slots MC MS ls hC hB hR hS hl hL hst
  have hok : ∀ v ∈ as, xok v := fun v hv => hst v (List.mem_append_left _ (List.mem_reverse.mpr hv))
  have hst2 : ∀ v ∈ st, xok v := fun v hv => hst v (List.mem_append_right _ hv)
  have e0 : xw0 mi' y = .code y mi'.2.1 mi'.2.2.1 mi'.2.2.2.1 := by unfold xw0; rw [hh]
  have hG : GoodIn xtb (wsS mi.1 idx y (xws mi' y)) := by
    intro u hu
    have h9 : u ∈ xtb := by
      unfold wsS xws at hu
      rw [e0] at hu
      rcases List.mem_append.mp hu with h | h
      · exact hw u (by simp only [List.mem_cons, List.not_mem_nil, or_false] at h ⊢; rcases h with h | h | h <;> simp [h])
      · rcases List.mem_cons.mp h with h | h
        · exact hw u (by rw [h]; simp)
        · exact h
    exact xtb_good (fun _ h => h) u h9
  have hrc := hcl.2
  refine xa_run (k1 := k1) (n1 := n1) (a := (as.map (xc w.1)).toArray) hC hB hS hl hL hst2 hk ?_ hA hX
  refine vx_runS (As := as.map (xc w.1)) (rest := st.map (xc w.1)) (index := idx) (maxL := mi'.2.2.1) (ret := mi'.2.2.2.1) (bytes := mi'.2.1) (n := as.length) (nL := mi.2.2.1) (cc := mi.2.1) (own := mi.1) (Ts := xtb) ⟨hC.1, hC.2.1, hC.2.2.2.1, hC.2.2.2.2.1, hC.2.2.2.2.2.1⟩ (hK l hC.2.2.2.2.2.2.2.2.2.1 hok)
    (cwS (ws' := xtb) as.length hC.2.2.2.2.2.1 hG (by rw [xws, e0]) rfl rfl ⟨hown, hcl.1⟩ ⟨Nat.le_trans hrc.1 hC.2.2.2.2.2.2.2.2.1.1, Nat.le_trans hrc.2 hC.2.2.2.2.2.2.2.2.1.2⟩)
    ⟨xPc_blind, fun U hU hW => ⟨rfl, xPc_at hR hC.2.2.2.2.2.2.2.2.2.2 hS U hU hW⟩⟩ rfl (List.length_map _) hl.2.1 ?_ ?_ hd ?_
  · show List.map (xc w.1) (as.reverse ++ st) = _
    rw [List.map_append, List.map_reverse]
  · show 2 * 0 + _ ≤ 8
    rw [List.map_map]
    have e9 : ∀ v ∈ st, ((fun v => v.category) ∘ xc w.1) v = if xcat2 v then 2 else 1 := by
      intro v hv
      have hjv : xjk v = false := by simpa using List.all_eq_true.mp hj v hv
      show (xc w.1 v).category = _
      by_cases q : xcat2 v = true
      · rw [if_pos q]; exact (xcat_iff hjv).mpr q
      · rw [if_neg q]; exact xn_cat1 (by simpa using q)
    rw [List.map_congr_left e9]
    omega
  · omega
/-- a static call of a method with a table -/
theorem xa_callSW {idx : Nat} {h0 : Nat × Nat × Nat × Nat} {t0 : List (Nat × Nat × Nat × Nat)} (h : xd mi.2.1 pc (.invokestatic idx) 3 pc') (hw : ∀ u ∈ [Cond.methodLink mi.1 idx y, .static y, .initialized y.cls, .codeWith y mi'.2.1 mi'.2.2.1 mi'.2.2.2.1 mi'.2.2.2.2.1], u ∈ xtb) (hh : mi'.2.2.2.2.1 = h0 :: t0) (hcl : xcl mi mi' y as.length)
    (hsum : (st.map fun v => if xcat2 v then 2 else 1).sum ≤ 8) (hk : k1 ≤ k ∧ n1 ≤ n) (hK : K w mi' y k1 n1 as S A B)
    (hA : ∀ v S', A v S' → X w mi TG (k - k1) (n - n1) pc' L (v.toList ++ st) S') (hX : ∀ E S', B E S' → XT w mi TG (k - k1) (n - n1) pc L st E S') (hj : st.all (fun v => !xjk v) = true) : X w mi TG k n pc L (as.reverse ++ st) S := by
  obtain ⟨hd, rfl⟩ := h
  intro p l e R s m args below meth c H locs cells slots MC MS ls hC hB hR hS hl hL hst
  have hok : ∀ v ∈ as, xok v := fun v hv => hst v (List.mem_append_left _ (List.mem_reverse.mpr hv))
  have hst2 : ∀ v ∈ st, xok v := fun v hv => hst v (List.mem_append_right _ hv)
  have e0 : xw0 mi' y = .codeWith y mi'.2.1 mi'.2.2.1 mi'.2.2.2.1 mi'.2.2.2.2.1 := by unfold xw0; rw [hh]
  have hG : GoodIn xtb (va_wsS mi.1 idx y (xws mi' y)) := by
    intro u hu
    have h9 : u ∈ xtb := by
      unfold va_wsS xws at hu
      rw [e0] at hu
      rcases List.mem_append.mp hu with h | h
      · exact hw u (by simp only [List.mem_cons, List.not_mem_nil, or_false] at h ⊢; rcases h with h | h | h <;> simp [h])
      · rcases List.mem_cons.mp h with h | h
        · exact hw u (by rw [h]; simp)
        · exact h
    exact xtb_good (fun _ h => h) u h9
  have hrc := hcl.2
  refine xa_run (k1 := k1) (n1 := n1) (a := (as.map (xc w.1)).toArray) hC hB hS hl hL hst2 hk ?_ hA hX
  refine vx_runSX (hh := mi'.2.2.2.2.1) (As := as.map (xc w.1)) (rest := st.map (xc w.1)) (index := idx) (maxL := mi'.2.2.1) (ret := mi'.2.2.2.1) (bytes := mi'.2.1) (n := as.length) (nL := mi.2.2.1) (cc := mi.2.1) (own := mi.1) (Ts := xtb) ⟨hC.1, hC.2.1, hC.2.2.2.1, hC.2.2.2.2.1, hC.2.2.2.2.2.1⟩ (hK l hC.2.2.2.2.2.2.2.2.2.1 hok)
    (vx_cwSW (ws' := xtb) as.length hC.2.2.2.2.2.1 hG (by rw [xws, e0]) rfl rfl hcl.1 ⟨Nat.le_trans hrc.1 hC.2.2.2.2.2.2.2.2.1.1, Nat.le_trans hrc.2 hC.2.2.2.2.2.2.2.2.1.2⟩)
    ⟨xPc_blind, fun U hU hW => ⟨rfl, xPc_at hR hC.2.2.2.2.2.2.2.2.2.2 hS U hU hW⟩⟩ rfl (List.length_map _) hl.2.1 ?_ ?_ hd ?_
  · show List.map (xc w.1) (as.reverse ++ st) = _
    rw [List.map_append, List.map_reverse]
  · show 2 * 0 + _ ≤ 8
    rw [List.map_map]
    have e9 : ∀ v ∈ st, ((fun v => v.category) ∘ xc w.1) v = if xcat2 v then 2 else 1 := by
      intro v hv
      have hjv : xjk v = false := by simpa using List.all_eq_true.mp hj v hv
      show (xc w.1 v).category = _
      by_cases q : xcat2 v = true
      · rw [if_pos q]; exact (xcat_iff hjv).mpr q
      · rw [if_neg q]; exact xn_cat1 (by simpa using q)
    rw [List.map_congr_left e9]
    omega
  · omega
/-- a static call of a nest mate, which doesn't throw -/
theorem xa_callSN {idx : Nat} {host : String} (h : xd mi.2.1 pc (.invokestatic idx) 3 pc') (hn : (mi.1, idx, y, host) ∈ xnest) (hw : ∀ u ∈ [Cond.static y, .initialized y.cls, .code y mi'.2.1 mi'.2.2.1 mi'.2.2.2.1], u ∈ xtb) (hh : mi'.2.2.2.2.1 = []) (hcl : xcl mi mi' y as.length)
    (hsum : (st.map fun v => if xcat2 v then 2 else 1).sum ≤ 8) (hk : k1 ≤ k ∧ n1 ≤ n) (hK : K w mi' y k1 n1 as S A (fun _ _ => False))
    (hA : ∀ v S', A v S' → X w mi TG (k - k1) (n - n1) pc' L (v.toList ++ st) S') (hj : st.all (fun v => !xjk v) = true) : X w mi TG k n pc L (as.reverse ++ st) S := by
  obtain ⟨hd, rfl⟩ := h
  intro p l e R s m args below meth c H locs cells slots MC MS ls hC hB hR hS hl hL hst
  have hok : ∀ v ∈ as, xok v := fun v hv => hst v (List.mem_append_left _ (List.mem_reverse.mpr hv))
  have hst2 : ∀ v ∈ st, xok v := fun v hv => hst v (List.mem_append_right _ hv)
  have e0 : xw0 mi' y = .code y mi'.2.1 mi'.2.2.1 mi'.2.2.2.1 := by unfold xw0; rw [hh]
  have hG : GoodIn xtb (xws mi' y) := by
    intro u hu
    have h9 : u ∈ xtb := by
      unfold xws at hu
      rw [e0] at hu
      rcases List.mem_cons.mp hu with h | h
      · exact hw u (by rw [h]; simp)
      · exact h
    exact xtb_good (fun _ h => h) u h9
  have hM : Met l y (xws mi' y) (xrm mi' k1 n1) (va_Pc (as.map (xc w.1)) (xPc w S)) (xQc w A) k1 n1 (xfr w) := by
    refine MetFree.mono (hK l hC.2.2.2.2.2.2.2.2.2.1 hok) (fun a s hp => hp) (fun _ _ _ _ _ hk => hk) (fun a st o t _ hq => ?_)
    rcases hq with hq | ⟨q, h1, E, ce, L, ⟨⟨S', h3, h4⟩, hF⟩, h5⟩
    · exact hq
    · exact h3.elim
  have hrc := hcl.2
  have hSt := hC.2.2.2.2.2.2.2.2.2.2
  have hnw : va_Nw (.methodLinkNest mi.1 idx y host) s := hSt.2.2.2.2.2.2.2.1 _ hn
  have hts := hC.2.2.2.2.2.1
  refine xa_run (B := fun _ _ => False) (k1 := k1) (n1 := n1) (a := (as.map (xc w.1)).toArray) hC hB hS hl hL hst2 hk ?_ hA (fun _ _ h => h.elim)
  have hrun : va_Run p l e R s m args below meth c H locs cells slots k1 n1 (F0 m pc ls (List.map (xc w.1) (as.reverse ++ st))) (st.map (xc w.1)) (xQc w A (as.map (xc w.1)).toArray) (xfr w) := by
    refine va_runSN (As := as.map (xc w.1)) (rest := st.map (xc w.1)) (index := idx) (maxL := mi'.2.2.1) (ret := mi'.2.2.2.1) (bytes := mi'.2.1) (n := as.length) (nL := mi.2.2.1) (cc := mi.2.1) (own := mi.1) (Ts := xtb) (host := host) ⟨hC.1, hC.2.1, hC.2.2.2.1, hC.2.2.2.2.1, hts⟩ hM
      ⟨va_cnB (ws' := xtb) as.length hts hG (by rw [xws, e0]) rfl rfl hnw (hts _ (hw _ (by simp))) hcl.1 ⟨Nat.le_trans hrc.1 hC.2.2.2.2.2.2.2.2.1.1, Nat.le_trans hrc.2 hC.2.2.2.2.2.2.2.2.1.2⟩, hts _ (hw _ (by simp)), trivial⟩
      ⟨xPc_blind, fun U hU hW => ⟨rfl, xPc_at hR hC.2.2.2.2.2.2.2.2.2.2 hS U hU hW⟩⟩ rfl (List.length_map _) hl.2.1 ?_ ?_ hd ?_
    · show List.map (xc w.1) (as.reverse ++ st) = _
      rw [List.map_append, List.map_reverse]
    · show 2 * 0 + _ ≤ 8
      rw [List.map_map]
      have e9 : ∀ v ∈ st, ((fun v => v.category) ∘ xc w.1) v = if xcat2 v then 2 else 1 := by
        intro v hv
        have hjv : xjk v = false := by simpa using List.all_eq_true.mp hj v hv
        show (xc w.1 v).category = _
        by_cases q : xcat2 v = true
        · rw [if_pos q]; exact (xcat_iff hjv).mpr q
        · rw [if_neg q]; exact xn_cat1 (by simpa using q)
      rw [List.map_congr_left e9]
      omega
    · omega
  intro T hT X0
  obtain ⟨v, st₀, t, T', L', g1, g2, g3, g4, g5, g6, g7⟩ := hrun T hT X0
  exact Or.inl ⟨v, st₀, t, T', L', g1, g2, g3, g4, g5, g6, g7⟩
/-! exceptions -/
/-- it goes on to the caller -/
theorem xt_out {E : String} (hh : mi.2.2.2.2.1 = []) (hq : B E S) : XT w mi (xTG w A B) k n pc L st E S := by
  intro p l e R s m args below meth c H locs cells slots MC MS ls q ce hC hB hR hS hl hL hst hce hv hcl
  refine vx_out (E := E) (ce := ce) (fun x hx => ?_) hC.2.2.2.2.2.2.1 hce hv hcl (fun t ht hvm => ⟨⟨S, hq, by rw [ht]; exact hR⟩, hS.F ht⟩) hS.2.2 (by omega) (by omega)
  rw [hC.2.2.2.2.2.2.2.1, hh] at hx
  cases hx
/-- it is caught by a row of the table; rows ahead of it name other classes -/
theorem xt_catch {E : String} (pre : List ExceptionTableEntry) (x : ExceptionTableEntry) (suf : List ExceptionTableEntry) (hsplit : tableOf mi.2.2.2.2.1 = pre ++ x :: suf)
    (hpass : ∀ z ∈ pre, covers z pc = false ∨ (z.catchType ≠ 0 ∧ ∃ nm : String, Cond.classLink mi.1 z.catchType nm ∈ xtb ∧ (E, nm) ∈ xnot)) (hx : covers x pc = true) (h0 : x.catchType ≠ 0) (hlink : Cond.classLink mi.1 x.catchType E ∈ xtb) (hcast : (E, E) ∈ xcast)
    (kk : ∀ q, X w mi TG k n x.handlerPc L [xv (.ref q)] S) : XT w mi TG k n pc L st E S := by
  intro p l e R s m args below meth c H locs cells slots MC MS ls q ce hC hB hR hS hl hL hst hce hv hcl
  have hSt := hC.2.2.2.2.2.2.2.2.2.2
  refine vx_catch hC.2.2.2.2.1 pre x suf (by rw [hC.2.2.2.2.2.2.2.1]; exact hsplit) (fun z hz => ?_) hx h0 (hC.2.2.2.2.2.1 _ hlink) (va_Nw.use rfl (hSt.2.2.2.2.2.1 _ hcast)) hce hv hcl ?_
  · rcases hpass z hz with h | ⟨h1, nm, h2, h3⟩
    · exact Or.inl h
    · exact Or.inr ⟨h1, nm, hC.2.2.2.2.2.1 _ h2, hSt.2.2.2.2.2.2.2.2 _ h3⟩
  · exact kk q p l e R s m args below meth c H locs cells slots MC MS ls hC hB hR hS hl hL (xok_of (v := xv (.ref q)) trivial (fun v hv => nomatch hv))
end XC
