/-! the world in the making: calls -/
/-! the world in the making: methods and calls -/
def zQ (w : xW) (D : zD) (E : zE) (z : Nat) : Array Value → State → Outcome → State → Prop := fun _ st o t => (o = .returned none ∧ zRep w D E z t.heap) ∧ va_F (xfr w) st t
def zP (w : xW) (D : zD) (E : zE) (z : Nat) : State → Prop := fun U => zRep w D E z U.heap ∧ xSta w U U.heap ∧ zNw U
def zTG (w : xW) (D : zD) (E : zE) (z : Nat) : xT := fun below args s MC MS => vx_MQ below (zQ w D E z) (fun _ _ _ => False) args s MC MS (xfr w)
/-- the contract of a method that doesn't throw -/
def KZ (w : xW) (mi : xM) (y : MethodName) (k n : Nat) (as : List xV) (D : zD) (E : zE) (z : Nat) (D' : zD) (E' : zE) (z' : Nat) : Prop :=
  ∀ l : Launch, l.flags = flags0 → (∀ v ∈ as, xok v) → vx_Met l y (xws mi y) (xrm mi k n) (va_Pc (as.map (xc w.1)) (zP w D E z)) (zQ w D' E' z') (fun _ _ _ => False) k n (xfr w)
theorem KZ.of {w : xW} {qq : Prop} {mi : xM} {y : MethodName} {k n : Nat} {as L0 : List xV} {D D' : zD} {E E' : zE} {z z' : Nat} (hqq : qq → y.name = "<init>") (hy : plainName y.cls = true) (hh : mi.2.2.2.2.1 = []) (hc : y.cls = mi.1) (hj : as.all (fun v => !xjk v) = true) (hl : (xent as).length ≤ mi.2.2.1) (hL : xent as ++ List.replicate (mi.2.2.1 - (xent as).length) xj = L0)
    (body : Z w qq mi (zTG w D' E' z') k n 0 L0 [] D E z) : KZ w mi y k n as D E z D' E' z' := by
  intro l hf hok
  have hj2 : ∀ v ∈ as, xjk v = false := fun v hv => by simpa using List.all_eq_true.mp hj v hv
  have e0 : xw0 mi y = .code y mi.2.1 mi.2.2.1 mi.2.2.2.1 := by unfold xw0; rw [hh]
  refine vx_ofW (ws' := xtb) (cc := mi.2.1) (maxL := mi.2.2.1) (ret := mi.2.2.2.1) hy (by rw [xws, e0]) ?_
  intro p e s m args below meth c s₁ Bd hml hex hv
  obtain ⟨rfl, hR, hSt, hNw⟩ := hv
  have hts := atoms_spec (ws := xws mi y) Bd.pre
  rw [lg_entry_eq]
  have hlen := xent_len w.1 as hj2
  have hlh := lv_entry (as.map (xc w.1)) (n := mi.2.2.1) (by rw [hlen]; exact hl)
  have hcl : s.vm.findClass mi.1 = some m.cls := by rw [← hc]; exact findClass_of_methodNamed Bd.named
  have htab : c.exceptionTable.toList = tableOf mi.2.2.2.2.1 := by
    rw [hh]
    cases hz : c.exceptionTable.toList with
    | nil => rfl
    | cons a t => exact absurd (hex a (by rw [hz]; exact List.mem_cons_self)) id
  rw [← hL] at body
  exact body p l e _ s m _ below meth c s.heap [] 0 0 k n _ ⟨Bd.exec, Bd.bytes, Bd.returns, hml, hcl, fun z hz => hts z (List.mem_cons_of_mem _ hz), Bd.notSynchronized, htab, ⟨Nat.le_refl _, Nat.le_refl _⟩, hf, hSt⟩
    ⟨by omega, by omega, Nat.le_refl _, Nat.le_refl _⟩ ⟨hR, fun h => (name_of_methodNamed Bd.named Bd.method).1.trans (hqq h), hNw⟩ va_S.rf ⟨by rw [List.length_append, List.length_replicate]; omega, by rw [xent_pl as 0 hj2]; exact hlh⟩ (xent_ok hok) (fun v hv => nomatch hv)
section ZC
variable {w : xW} {qq : Prop} {mi mi' : xM} {TG : xT} {k n k1 n1 pc pc' : Nat} {L st as : List xV} {D D' : zD} {E E' : zE} {z z' : Nat} {y : MethodName}
theorem za_vret (h : xd mi.2.1 pc .return_ 1 pc') (hr : mi.2.2.2.1 = none) : Z w qq mi (zTG w D E z) k n pc L [] D E z := by
  obtain ⟨hd, rfl⟩ := h
  intro p l e R s m args below meth c H locs cells slots MC MS ls hC hB hR hS hl hL hst
  refine W.widen (k := MC) (n := MS) (by omega) (by omega) (vx_ret ?_)
  exact W.vret hC.1 hC.2.1 (hC.2.2.1.trans hr) (fun t ht hW => ⟨⟨rfl, by rw [ht]; exact hR.1⟩, hS.F ht⟩) hS.2.2 hd hC.2.2.2.2.2.2.1
theorem Z.eqv {D2 : zD} {E2 : zE} {z2 : Nat} (e1 : D2 = D) (e2 : ∀ q, q ∈ D → E2 q.1 q.2 = E q.1 q.2) (e3 : z2 = z) (h : Z w qq mi TG k n pc L st D2 E2 z2) : Z w qq mi TG k n pc L st D E z := by
  subst e1
  subst e3
  intro p l e R s m args below meth c H locs cells slots MC MS ls hC hB hR hS hl hL hst
  have ew : zwl w D2 E2 = zwl w D2 E := List.map_congr_left (fun q hq => by rw [e2 q hq])
  exact h p l e R s m args below meth c H locs cells slots MC MS ls hC hB ⟨⟨by rw [ew]; exact hR.1.1, by rw [ew]; exact hR.1.2.1, hR.1.2.2⟩, hR.2⟩ hS hl hL hst
theorem zP_blind {av : List Value} : FrameBlind (va_Pc av (zP w D E z)) := fun a U g mk q => ⟨q.1, q.2.1, (q.2.2.1).moved (State.WarmedH.refl U), fun x hx => va_Nw.warmM (State.WarmedH.refl U) (q.2.2.2.1 x hx), fun C hC => (q.2.2.2.2 C hC).moved (Vm.Alike.refl U.vm)⟩
theorem zP_at {s : State} {H : Heap} {locs : List Loc} (hR : zRep w D E z H) (hNw : zNw s) (hSt : xSta w s s.heap) (hS : va_S (xfr w) s.heap H locs) (U : State) (hU : U.heap = H) (hW : s.WarmedH U.vm) : zP w D E z U := by
  refine ⟨by rw [hU]; exact hR, ?_, fun x hx => va_Nw.warmM hW (hNw.1 x hx), fun C hC => (hNw.2 C hC).moved hW.alike⟩
  rw [hU]
  exact (hSt.kept hS.1 hS.2.1).moved hW
theorem za_run {p : Program} {l : Launch} {e : Env} {R : Room} {s : State} {m : MethodId} {args : Array Value} {below : List Frame} {meth : Method} {c : Code} {H : Heap} {locs : List Loc} {cells slots MC MS : Nat} {ls : Array Slot} {st0 : List Value} {a : Array Value}
    (hC : xCx w mi p l R s m args meth c) (hB : cells + k ≤ MC ∧ slots + n ≤ MS ∧ MC ≤ R.cells ∧ MS ≤ R.slots) (hq : (qq → meth.name = "<init>") ∧ zNw s) (hS : va_S (xfr w) s.heap H locs) (hl : xlh w.1 ls mi.2.2.1 L) (hL : ∀ v ∈ L, xok v) (hst : ∀ v ∈ st, xok v) (hk : k1 ≤ k ∧ n1 ≤ n)
    (hr : vx_Run p l e R s m args below meth c H locs cells slots k1 n1 (F0 m pc ls st0) (st.map (xc w.1)) (zQ w D' E' z' a) (fun _ _ _ => False) (xfr w))
    (kk : Z w qq mi TG (k - k1) (n - n1) (pc + 3) L st D' E' z') : W p l e R s m args below meth c H locs cells slots (TG below args s MC MS) (F0 m pc ls st0) := by
  intro T hT X0
  rcases hr T hT X0 with ⟨v, st₀, t, T', Lc, h0, X', hL', e1, e2, ⟨⟨hv, hR'⟩, hF⟩, st'⟩ | ⟨q, st₀, t, T', Lc, E9, ce, h0, X', hL', e1, e2, hB', hce, hcv, hcl, st'⟩
  · cases hv
    obtain ⟨k1', k2', k3'⟩ := vx_keep h0 e1 hS (fun _ _ h => h) (fun _ h => h) hL' hF
    obtain ⟨t2, a1, b1⟩ := kk p l e R s m args below meth c T'.heap (locs ++ Lc) (cells + k1) (slots + n1) MC MS ls hC (by omega) ⟨by rw [e1]; exact hR', hq⟩ k3' hl hL hst T' rfl X'
    exact ⟨t2, st' t2 a1, b1⟩
  · exact absurd hB' id
theorem za_callI {x y2 idx : Nat} (h : xd mi.2.1 pc (.invokespecial idx) 3 pc') (hw : ∀ u ∈ [Cond.methodLink mi.1 idx y, .instanceMethod y, .initialized y.cls, .code y mi'.2.1 mi'.2.2.1 mi'.2.2.2.1], u ∈ xtb) (hh : mi'.2.2.2.2.1 = []) (hr : mi'.2.2.2.1 = none) (hin : y.name = "<init>") (hcl : xcl mi mi' y 0)
    (hsum : (st.map fun v => if xcat2 v then 2 else 1).sum ≤ 8) (hk : k1 ≤ k ∧ n1 ≤ n) (hK : KZ w mi' y k1 n1 [xp x y2] D E z D' E' z') (kk : Z w qq mi TG (k - k1) (n - n1) pc' L st D' E' z') (hj : st.all (fun v => !xjk v) = true) : Z w qq mi TG k n pc L (xp x y2 :: st) D E z := by
  obtain ⟨hd, rfl⟩ := h
  intro p l e R s m args below meth c H locs cells slots MC MS ls hC hB hR hS hl hL hst
  have hok : ∀ v ∈ [xp x y2], xok v := fun v hv => hst v (by rw [List.mem_singleton.mp hv]; exact List.mem_cons_self)
  have hst2 : ∀ v ∈ st, xok v := (xok_cons hst).2
  have e0 : xw0 mi' y = .code y mi'.2.1 mi'.2.2.1 none := by unfold xw0; rw [hh, hr]
  have hG : GoodIn xtb (xws mi' y) := by
    intro u hu
    have h9 : u ∈ xtb := by
      unfold xws at hu
      rw [e0] at hu
      rcases List.mem_cons.mp hu with h | h
      · exact hw u (by rw [h, ← hr]; simp)
      · exact h
    exact xtb_good (fun _ h => h) u h9
  have hM : Met l y (xws mi' y) (xrm mi' k1 n1) (va_Pc ([xp x y2].map (xc w.1)) (zP w D E z)) (zQ w D' E' z') k1 n1 (xfr w) := by
    refine MetFree.mono (hK l hC.2.2.2.2.2.2.2.2.2.1 hok) (fun a s hp => hp) (fun _ _ _ _ _ hk => hk) (fun a st o t _ hq => ?_)
    rcases hq with hq | ⟨q, h1, E9, ce, L9, h3, h5⟩
    · exact hq
    · exact h3.elim
  have hrc := hcl.2
  have hts := hC.2.2.2.2.2.1
  refine za_run (k1 := k1) (n1 := n1) (a := ([xp x y2].map (xc w.1)).toArray) hC hB hR.2 hS hl hL hst2 hk ?_ kk
  have hrun : va_Run p l e R s m args below meth c H locs cells slots k1 n1 (F0 m pc ls (List.map (xc w.1) (xp x y2 :: st))) (st.map (xc w.1)) (zQ w D' E' z' ([xp x y2].map (xc w.1)).toArray) (xfr w) := by
    refine va_runI (As := []) (b := w.1 x y2) (rest := st.map (xc w.1)) (index := idx) (maxL := mi'.2.2.1) (bytes := mi'.2.1) (n := 0) (nL := mi.2.2.1) (cc := mi.2.1) (own := mi.1) (Ts := xtb) ⟨hC.1, hC.2.1, hC.2.2.2.1, hC.2.2.2.2.1, hts⟩ hM
      (cwI (ws' := xtb) 0 hts hG (by rw [xws, e0]) rfl rfl (hts (.initialized y.cls) (hw _ (by simp))) (hts (.methodLink mi.1 idx y) (hw _ (by simp))) (hts (.instanceMethod y) (hw _ (by simp))) hin hcl.1 ⟨Nat.le_trans hrc.1 hC.2.2.2.2.2.2.2.2.1.1, Nat.le_trans hrc.2 hC.2.2.2.2.2.2.2.2.1.2⟩)
      ⟨zP_blind, fun U hU hW => ⟨rfl, zP_at hR.1 hR.2.2 hC.2.2.2.2.2.2.2.2.2.2 hS U hU hW⟩⟩ rfl rfl hl.2.1 rfl ?_ hd (by omega)
    show 2 * 0 + _ ≤ 8
    rw [List.map_map]
    have e9 : ∀ v ∈ st, ((fun v => v.category) ∘ xc w.1) v = if xcat2 v then 2 else 1 := by
      intro v hv
      have hjv : xjk v = false := by simpa using List.all_eq_true.mp hj v hv
      show (xc w.1 v).category = _
      by_cases q : xcat2 v = true
      · rw [if_pos q]; exact (xcat_iff hjv).mpr q
      · rw [if_neg q]; exact xn_cat1 (by simpa using q)
    rw [List.map_congr_left e9]
    omega
  intro T hT X0
  obtain ⟨v, st₀, t, T', L', g1, g2, g3, g4, g5, g6, g7⟩ := hrun T hT X0
  exact Or.inl ⟨v, st₀, t, T', L', g1, g2, g3, g4, g5, g6, g7⟩
/-- a nest mate's constructor -/
theorem za_callIN {x y2 idx : Nat} {host : String} (h : xd mi.2.1 pc (.invokespecial idx) 3 pc') (hnest : (mi.1, idx, y, host) ∈ znest) (hw : ∀ u ∈ [Cond.instanceMethod y, .initialized y.cls, .code y mi'.2.1 mi'.2.2.1 mi'.2.2.2.1], u ∈ xtb) (hh : mi'.2.2.2.2.1 = []) (hr : mi'.2.2.2.1 = none) (hin : y.name = "<init>") (hcl : xcl mi mi' y 0)
    (hsum : (st.map fun v => if xcat2 v then 2 else 1).sum ≤ 8) (hk : k1 ≤ k ∧ n1 ≤ n) (hK : KZ w mi' y k1 n1 [xp x y2] D E z D' E' z') (kk : Z w qq mi TG (k - k1) (n - n1) pc' L st D' E' z') (hj : st.all (fun v => !xjk v) = true) : Z w qq mi TG k n pc L (xp x y2 :: st) D E z := by
  obtain ⟨hd, rfl⟩ := h
  intro p l e R s m args below meth c H locs cells slots MC MS ls hC hB hR hS hl hL hst
  have hok : ∀ v ∈ [xp x y2], xok v := fun v hv => hst v (by rw [List.mem_singleton.mp hv]; exact List.mem_cons_self)
  have hst2 : ∀ v ∈ st, xok v := (xok_cons hst).2
  have e0 : xw0 mi' y = .code y mi'.2.1 mi'.2.2.1 none := by unfold xw0; rw [hh, hr]
  have hG : GoodIn xtb (xws mi' y) := by
    intro u hu
    have h9 : u ∈ xtb := by
      unfold xws at hu
      rw [e0] at hu
      rcases List.mem_cons.mp hu with h | h
      · exact hw u (by rw [h, ← hr]; simp)
      · exact h
    exact xtb_good (fun _ h => h) u h9
  have hM : Met l y (xws mi' y) (xrm mi' k1 n1) (va_Pc ([xp x y2].map (xc w.1)) (zP w D E z)) (zQ w D' E' z') k1 n1 (xfr w) := by
    refine MetFree.mono (hK l hC.2.2.2.2.2.2.2.2.2.1 hok) (fun a s hp => hp) (fun _ _ _ _ _ hk => hk) (fun a st o t _ hq => ?_)
    rcases hq with hq | ⟨q, h1, E9, ce, L9, h3, h5⟩
    · exact hq
    · exact h3.elim
  have hrc := hcl.2
  have hts := hC.2.2.2.2.2.1
  refine za_run (k1 := k1) (n1 := n1) (a := ([xp x y2].map (xc w.1)).toArray) hC hB hR.2 hS hl hL hst2 hk ?_ kk
  have hrun : va_Run p l e R s m args below meth c H locs cells slots k1 n1 (F0 m pc ls (List.map (xc w.1) (xp x y2 :: st))) (st.map (xc w.1)) (zQ w D' E' z' ([xp x y2].map (xc w.1)).toArray) (xfr w) := by
    refine va_runIN (As := []) (b := w.1 x y2) (rest := st.map (xc w.1)) (index := idx) (maxL := mi'.2.2.1) (bytes := mi'.2.1) (n := 0) (nL := mi.2.2.1) (cc := mi.2.1) (own := mi.1) (Ts := xtb) (host := host) ⟨hC.1, hC.2.1, hC.2.2.2.1, hC.2.2.2.2.1, hts⟩ hM
      ⟨va_cnB (ws' := xtb) 0 hts hG (by rw [xws, e0]) rfl rfl (hR.2.2.1 _ hnest) (hts (.initialized y.cls) (hw _ (by simp))) hcl.1 ⟨Nat.le_trans hrc.1 hC.2.2.2.2.2.2.2.2.1.1, Nat.le_trans hrc.2 hC.2.2.2.2.2.2.2.2.1.2⟩, hin, hts (.instanceMethod y) (hw _ (by simp))⟩
      ⟨zP_blind, fun U hU hW => ⟨rfl, zP_at hR.1 hR.2.2 hC.2.2.2.2.2.2.2.2.2.2 hS U hU hW⟩⟩ rfl rfl hl.2.1 rfl ?_ hd (by omega)
    show 2 * 0 + _ ≤ 8
    rw [List.map_map]
    have e9 : ∀ v ∈ st, ((fun v => v.category) ∘ xc w.1) v = if xcat2 v then 2 else 1 := by
      intro v hv
      have hjv : xjk v = false := by simpa using List.all_eq_true.mp hj v hv
      show (xc w.1 v).category = _
      by_cases q : xcat2 v = true
      · rw [if_pos q]; exact (xcat_iff hjv).mpr q
      · rw [if_neg q]; exact xn_cat1 (by simpa using q)
    rw [List.map_congr_left e9]
    omega
  intro T hT X0
  obtain ⟨v, st₀, t, T', L', g1, g2, g3, g4, g5, g6, g7⟩ := hrun T hT X0
  exact Or.inl ⟨v, st₀, t, T', L', g1, g2, g3, g4, g5, g6, g7⟩
/-- Object's constructor -/
theorem za_obj {v : xV} {idx : Nat} (h : xd mi.2.1 pc (.invokespecial idx) 3 pc') (hw : ∀ u ∈ [Cond.methodLink mi.1 idx objectInit, .instanceMethod objectInit, .code objectInit ⟨#[0xb1]⟩ 1 none], u ∈ xtb) (hfr : 1 ≤ mi.2.2.2.2.2.1 ∧ 12 ≤ mi.2.2.2.2.2.2) (kk : Z w qq mi TG k n pc' L [] D E z) {x y2 : Nat} (ev : v = xp x y2) : Z w qq mi TG k n pc L [v] D E z := by
  obtain ⟨hd, rfl⟩ := h
  subst ev
  intro p l e R s m args below meth c H locs cells slots MC MS ls hC hB hR hS hl hL hst
  have hts := hC.2.2.2.2.2.1
  refine W.objInit hC.1 hC.2.1 hC.2.2.2.2.1 (hts (.methodLink mi.1 idx objectInit) (hw _ (by simp))) (hts (.instanceMethod objectInit) (hw _ (by simp))) (hts (.code objectInit ⟨#[0xb1]⟩ 1 none) (hw _ (by simp))) rfl (by rw [hC.2.2.2.1]; exact hl.2.1) rfl hd (Nat.le_trans hfr.1 hC.2.2.2.2.2.2.2.2.1.1) (Nat.le_trans hfr.2 hC.2.2.2.2.2.2.2.2.1.2) ?_
  exact W.eq (g2 := F0 m (pc + 3) ls []) rfl (kk p l e R s m args below meth c H locs cells slots MC MS ls hC hB hR hS hl hL (fun v hv => nomatch hv))
end ZC
