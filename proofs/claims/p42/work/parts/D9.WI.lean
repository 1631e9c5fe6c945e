/-! the law: its end -/
def R_law : String := "PromiseMarketLaw"
def lw_P (b : Addr) (xs : List Int32) (args : Array Value) (s : State) : Prop := args = #[.ref b] ∧ s.IntsAt b xs ∧ xs.length ≤ 260 ∧ (Jvm.Cond.and given_1 narrow_1).before args s = true
/-- what a walk over the start with the record d0 says of its end, said of the start itself -/
theorem lw_closed {s t : State} {o : Outcome} {d0 : Drawn} {L : List Loc} {k n : Nat} (hd0 : s.drawn.sameBut d0 lw_cs) (hv : ∃ v, o = .returned v) (hW : (s.setDrawn d0).WarmedH t.vm) (hs : (s.setDrawn d0).sameButNew ({ t with vm := s.vm } : State) L k n) : State.butDraws s t lw_cs (fun t1 => Framed s o t1 L k n) := by
  have h2 : t.drawn = d0 := congrArg State.drawn hs.1
  refine ⟨⟨hv, hW, State.sameButNew.setDrawn hs s.drawn⟩, ?_, by decide⟩
  rw [h2]
  exact hd0
def lw_Q (_ : Array Value) (s : State) (o : Outcome) (t : State) : Prop := o = .returned (some (.int 1)) ∧ State.butDraws s t lw_cs (fun t1 => Framed s o t1 [] 600104 7301314)
def lw_Z (below : List Frame) (a : Array Value) (s : State) : State → Prop := fun t => ∃ o, t.status = .running ∧ Ended t below o ∧ lw_Q a s o t
theorem lw_ret {R : Room} {args : Array Value} {p : Program} {l : Launch} {e : Env} {s : State} {m : MethodId} {below : List Frame} {meth : Method} {c : Code} {d0 : Drawn} (hd0 : s.drawn.sameBut d0 lw_cs) (hx : p.tables.exec = Jvm.exec) (hb : c.code = code) (hr : meth.sig.returnType = ret) (hlocks : meth.locks = false) {pc : Nat} {H : Heap} {ls : Array Slot} (hdg : decode code pc = .ok (.ireturn, 1)) : W p l e R (s.setDrawn d0) m args below meth c H [] 600104 7301314 (lw_Z below args s) (F0 m pc ls [.int 1]) := by
  intro T hT X
  obtain ⟨fs, hret, hrun, hended, hW, hframe⟩ := X.leave (v := some (.int 1)) (hlocks := hlocks) (fun h => by rw [hr] at h; cases h)
  have hmeth' : T.vm.method? m = some meth := X.method'
  refine ⟨T.setFrames fs, ?_, .returned (some (.int 1)), hrun, hended, rfl, lw_closed hd0 ⟨_, rfl⟩ hW hframe⟩
  jvm_step X.here [X.here.top, hx, hb, hdg, hmeth', hr, ret, narrow_b1]
  (try refine ⟨rfl, ?_⟩); (try refine ⟨rfl, ?_⟩)
  first | (intro acts; rw [hret _ acts rfl rfl rfl]) | rw [hret _ _ rfl rfl rfl]
  exact Steps.refl _
/-- what holds at the law's entry: the machine, the code, the tables' words (any of lw_tbl by 'hts w (by decide +kernel)'), the script of L ints xs at the cell b, what the Statement gives of the start (any of its parts by flat_of_before) -/
def lw_At (p : Program) (s : State) (m : MethodId) (meth : Method) (c : Code) (b L : Nat) (xs : Nat → Int32) : Prop :=
  p.tables.exec = Jvm.exec ∧ c.code = code ∧ meth.sig.returnType = ret ∧ c.maxLocals = 1 ∧ (∀ x ∈ c.exceptionTable.toList, False) ∧ s.vm.findClass R_law = some m.cls ∧ (∀ w ∈ lw_tbl, w.before #[Value.ref b] s = true) ∧ va_X b L xs s s.heap ∧ b < s.heap.size ∧ meth.locks = false ∧ (Jvm.Cond.and given_1 narrow_1).before #[Value.ref b] s = true
/-- the law's end as the abstract machine has it -/
def TGl (w : xW) : xT := fun below args s MC MS t => (MC ≤ 600104 ∧ MS ≤ 7301314 ∧ s.heap.size = w.2.2.2.1) → lw_Z below args s t
theorem xl_ret {w : xW} {k n : Nat} {L : List xV} {S : xS} : X w mL_law (TGl w) k n 11 L [xi 1] S := by
  intro p l e R s m args below meth c H locs cells slots MC MS ls hC hB hR hS hl hL hst
  by_cases hc : MC ≤ 600104 ∧ MS ≤ 7301314 ∧ s.heap.size = w.2.2.2.1
  · have h9 : W p l e R s m args below meth c H locs cells slots (lw_Z below args s) (F0 m 11 ls [.int 1]) := by
      refine va_forget (fun q hq => ?_) (W.widen (k := 600104) (n := 7301314) (by omega) (by omega) (W.base (lw_ret (Drawn.sameBut.refl s.drawn lw_cs) hC.1 hC.2.1 hC.2.2.1 hC.2.2.2.2.2.2.1 eL_law_11.1)))
      have := hS.2.2 q hq
      show s.heap.size ≤ q.base
      rw [hc.2.2]
      exact this
    intro T hT X0
    obtain ⟨t, a, b⟩ := h9 T hT X0
    exact ⟨t, a, fun _ => b⟩
  · intro T hT X0
    exact ⟨_, Steps.refl _, fun z => absurd z hc⟩
theorem BI0 : BI 0 0 xS0 := by
  refine ⟨⟨⟨rfl, Nat.zero_le _, ⟨Int.le_refl _, Int.le_refl _⟩, fun j hj => absurd hj (Nat.not_lt_zero j)⟩, Nat.zero_le _, Nat.zero_le _, ?_, fun p hp => absurd hp (Nat.not_lt_zero p), fun j hj => absurd hj (Nat.not_lt_zero j), ?_⟩, ⟨rfl, rfl, rfl, rfl⟩, fun p hp => absurd hp (Nat.not_lt_zero p), fun i hi => ?_, fun j hj => Or.inl rfl⟩
  · refine ⟨rfl, ?_, ?_, ?_, ?_, ?_, ?_, ?_, ?_, ?_, ?_⟩ <;> decide
  · refine ⟨by decide, by decide, fun i hi => ?_⟩
    show 0 ≤ (0 : Int) ∧ (0 : Int) ≤ 0
    decide
  · show (if i < 15 then perA i else 0) = perA i
    rw [if_pos hi]
theorem xl_all {w : xW} {b : Nat} (hw : zPl w (b + 1)) (hN : w.2.2.2.2.2.1 ≤ 260) : Z w False mL_law (TGl w) (252 + 600) (4678 + 3600) 0 [xp 52 0] [] [] (zfin w zc0) b := by
  refine zl_law hw ?_
  refine xs_aload_0 eL_law_7 ?_
  refine xbi_V1 (k1 := 600) (n1 := 3600) (mi' := mL_holds) (y := yL_holds) eL_law_8 (xw_5 lRL_236 wy_L_holds) rfl ⟨wd_L_holds, by decide, by decide⟩ (by decide) (fun _ => rfl) rfl (Nat.le_of_ble_eq_true rfl) rfl ⟨Nat.le_refl _, Nat.le_refl _⟩ (k_holds BI0 (by decide) rfl (by omega) (fun S' => ?_))
  exact xl_ret
