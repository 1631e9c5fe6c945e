/-! the law: its loop and its end -/
/-! the law: its loop and its end -/
def R_law : String := "PromiseMarketLaw"
def lw_P (b : Addr) (xs : List Int32) (args : Array Value) (s : State) : Prop := args = #[.ref b] ∧ s.IntsAt b xs ∧ xs.length ≤ 2560 ∧ (Jvm.Cond.and given_1 narrow_1).before args s = true
/-- what a walk over the start with the record d0 says of its end, said of the start itself -/
theorem lw_closed {s t : State} {o : Outcome} {d0 : Drawn} {L : List Loc} {k n : Nat} (hd0 : s.drawn.sameBut d0 lw_cs) (hv : ∃ v, o = .returned v) (hW : (s.setDrawn d0).WarmedH t.vm) (hs : (s.setDrawn d0).sameButNew ({ t with vm := s.vm } : State) L k n) : State.butDraws s t lw_cs (fun t1 => Framed s o t1 L k n) := by
  have h2 : t.drawn = d0 := congrArg State.drawn hs.1
  refine ⟨⟨hv, hW, State.sameButNew.setDrawn hs s.drawn⟩, ?_, by decide⟩
  rw [h2]
  exact hd0
def lw_Q (_ : Array Value) (s : State) (o : Outcome) (t : State) : Prop := o = .returned (some (.int 1)) ∧ State.butDraws s t lw_cs (fun t1 => Framed s o t1 [] 601024 7293034)
def lw_Z (below : List Frame) (a : Array Value) (s : State) : State → Prop := fun t => ∃ o, t.status = .running ∧ Ended t below o ∧ lw_Q a s o t
theorem lw_ret {R : Room} {args : Array Value} {p : Program} {l : Launch} {e : Env} {s : State} {m : MethodId} {below : List Frame} {meth : Method} {c : Code} {d0 : Drawn} (hd0 : s.drawn.sameBut d0 lw_cs) (hx : p.tables.exec = Jvm.exec) (hb : c.code = code) (hr : meth.sig.returnType = ret) (hlocks : meth.locks = false) {pc : Nat} {H : Heap} {ls : Array Slot} (hdg : decode code pc = .ok (.ireturn, 1)) : W p l e R (s.setDrawn d0) m args below meth c H [] 601024 7293034 (lw_Z below args s) (F0 m pc ls [.int 1]) := by
  intro T hT X
  obtain ⟨fs, hret, hrun, hended, hW, hframe⟩ := X.leave (v := some (.int 1)) (hlocks := hlocks) (fun h => by rw [hr] at h; cases h)
  have hmeth' : T.vm.method? m = some meth := X.method'
  refine ⟨T.setFrames fs, ?_, .returned (some (.int 1)), hrun, hended, rfl, lw_closed hd0 ⟨_, rfl⟩ hW hframe⟩
  jvm_step X.here [X.here.top, hx, hb, hdg, hmeth', hr, ret, narrow_b1]
  (try refine ⟨rfl, ?_⟩); (try refine ⟨rfl, ?_⟩)
  first | (intro acts; rw [hret _ acts rfl rfl rfl]) | rw [hret _ _ rfl rfl rfl]
  exact Steps.refl _
/-- what holds at the law's entry: the machine, the code, the tables' words (any of lw_tbl by 'hts w (by decide +kernel)'), the script of L ints xs at the cell b, what the Statement gives of the start (any of its parts by flat_of_before) -/
def lw_At (p : Program) (s : State) (m : MethodId) (meth : Method) (c : Code) (b L : Nat) (xs : Nat → Int32) : Prop :=
  p.tables.exec = Jvm.exec ∧ c.code = code ∧ meth.sig.returnType = ret ∧ c.maxLocals = 9 ∧ (∀ x ∈ c.exceptionTable.toList, False) ∧ s.vm.findClass R_law = some m.cls ∧ (∀ w ∈ lw_tbl, w.before #[Value.ref b] s = true) ∧ va_X b L xs s s.heap ∧ b < s.heap.size ∧ meth.locks = false ∧ (Jvm.Cond.and given_1 narrow_1).before #[Value.ref b] s = true
/-- the law's end as the abstract machine has it -/
def TGl (w : xW) : xT := fun below args s MC MS t => (MC ≤ 601024 ∧ MS ≤ 7293034 ∧ s.heap.size = w.2.2.2.1) → lw_Z below args s t
theorem xl_ret {w : xW} {k n : Nat} {L : List xV} {S : xS} : X w mL_law (TGl w) k n 2365 L [xi 1] S := by
  intro p l e R s m args below meth c H locs cells slots MC MS ls hC hB hR hS hl hL hst
  by_cases hc : MC ≤ 601024 ∧ MS ≤ 7293034 ∧ s.heap.size = w.2.2.2.1
  · have h9 : W p l e R s m args below meth c H locs cells slots (lw_Z below args s) (F0 m 2365 ls [.int 1]) := by
      refine va_forget (fun q hq => ?_) (W.widen (k := 601024) (n := 7293034) (by omega) (by omega) (W.base (lw_ret (Drawn.sameBut.refl s.drawn lw_cs) hC.1 hC.2.1 hC.2.2.1 hC.2.2.2.2.2.2.1 eL_law_2365.1)))
      have := hS.2.2 q hq
      show s.heap.size ≤ q.base
      rw [hc.2.2]
      exact this
    intro T hT X0
    obtain ⟨t, a, b⟩ := h9 T hT X0
    exact ⟨t, a, fun _ => b⟩
  · intro T hT X0
    exact ⟨_, Steps.refl _, fun z => absurd z hc⟩
set_option maxHeartbeats 1000000 in
theorem xl_loop {w : xW} (hN : w.2.2.2.2.2.1 ≤ 2560) : ∀ t : Nat, t ≤ 512 → ∀ (n N c : Nat) (S : xS) (l5 l6 l7 l8 : xV), INV (1500 * (t : Int)) n N c S → X w mL_law (TGl w) (512 - t) (6 * (512 - t)) 23 [xp 52 0, xp 0 0, xp 30 0, xp 42 0, xi (5 * (t : Int)), l5, l6, l7, l8] [] S := by
  refine nloop 512 (fun t ht ih => ?_)
  intro nn N c S l5 l6 l7 l8 hI
  refine xs_iload_4 eL_law_23 ?_
  refine xs_aload_0 eL_law_25 ?_
  refine xa_slen eL_law_26 ?_
  refine xa_iconst eL_law_27 ?_
  refine xa_isub eL_law_28 ?_
  refine xa_icmp_gt (tgt := 2364) eL_law_29 (by decide) (by omega) (by omega) (fun c9 => ?_) (fun c9 => ?_)
  · refine xa_iconst eL_law_2364 ?_
    exact xl_ret
  · have hk : ∀ (n' N' c' : Nat) (S' : xS) (l5 l6 l7 l8 : xV), INV (1500 * (t : Int) + 1500) n' N' c' S' → X w mL_law (TGl w) (511 - t) (6 * (511 - t)) 2358 [xp 52 0, xp 0 0, xp 30 0, xp 42 0, xi (5 * (t : Int)), l5, l6, l7, l8] [] S' := fun n' N' c' S' l5 l6 l7 l8 h => by
      refine xs_iinc_4 eL_law_2358 rfl ?_
      refine xa_goto (tgt := 23) eL_law_2361 (by decide) ?_
      have h9 := ih (t + 1) (by omega) (by omega) n' N' c' S' l5 l6 l7 l8 (by rw [show 1500 * ((t + 1 : Nat) : Int) = 1500 * (t : Int) + 1500 by omega]; exact h)
      rw [show 5 * ((t + 1 : Nat) : Int) = 5 * (t : Int) + 5 by omega] at h9
      exact X_room h9 ⟨by omega, by omega⟩
    refine xs_aload_0 eL_law_32 ?_
    refine xs_iload_4 eL_law_33 ?_
    refine xa_sld eL_law_35 (by omega) (by omega) ?_
    refine xa_bipush eL_law_36 (by decide) ?_
    refine xa_iand eL_law_38 ?_
    rw [Int32.ofInt_toInt]
    have hv := xs_63 (w.2.2.2.2.2.2 (5 * (t : Int)).toNat)
    generalize (w.2.2.2.2.2.2 (5 * (t : Int)).toNat &&& Int32.ofInt 63).toInt = v at hv ⊢
    have hi5 : 0 ≤ 5 * (t : Int) ∧ 5 * (t : Int) + 4 < (w.2.2.2.2.2.1 : Int) := by omega
    have hT : 0 ≤ 1500 * (t : Int) ∧ 1500 * (t : Int) ≤ 790000 := by omega
    rcases (show v = 0 ∨ v = 1 ∨ v = 2 ∨ v = 3 ∨ v = 4 ∨ v = 5 ∨ v = 6 ∨ v = 7 ∨ v = 8 ∨ v = 9 ∨ v = 10 ∨ v = 11 ∨ v = 12 ∨ v = 13 ∨ v = 14 ∨ v = 15 ∨ v = 16 ∨ v = 17 ∨ v = 18 ∨ v = 19 ∨ v = 20 ∨ v = 21 ∨ v = 22 ∨ v = 23 ∨ v = 24 ∨ v = 25 ∨ v = 26 ∨ v = 27 ∨ v = 28 ∨ v = 29 ∨ v = 30 ∨ v = 31 ∨ v = 32 ∨ v = 33 ∨ v = 34 ∨ v = 35 ∨ v = 36 ∨ v = 37 ∨ v = 38 ∨ 39 ≤ v by omega) with hv9 | hv9 | hv9 | hv9 | hv9 | hv9 | hv9 | hv9 | hv9 | hv9 | hv9 | hv9 | hv9 | hv9 | hv9 | hv9 | hv9 | hv9 | hv9 | hv9 | hv9 | hv9 | hv9 | hv9 | hv9 | hv9 | hv9 | hv9 | hv9 | hv9 | hv9 | hv9 | hv9 | hv9 | hv9 | hv9 | hv9 | hv9 | hv9 | hv9
    · refine xa_tabIn (off := 169) (tgt := 208) eL_law_39 (by omega) (by omega) (by omega) (by rw [hv9]; rfl) (by decide) ?_
      exact X_room (c_addProcess (k := 511 - t) (n := 6 * (511 - t)) hI hT hi5 (by omega) hk) ⟨by omega, by omega⟩
    · refine xa_tabIn (off := 249) (tgt := 288) eL_law_39 (by omega) (by omega) (by omega) (by rw [hv9]; rfl) (by decide) ?_
      exact X_room (c_setBid (k := 511 - t) (n := 6 * (511 - t)) hI hT hi5 (by omega) hk) ⟨by omega, by omega⟩
    · refine xa_tabIn (off := 317) (tgt := 356) eL_law_39 (by omega) (by omega) (by omega) (by rw [hv9]; rfl) (by decide) ?_
      exact X_room (c_setArrival (k := 511 - t) (n := 6 * (511 - t)) hI hT hi5 (by omega) hk) ⟨by omega, by omega⟩
    · refine xa_tabIn (off := 377) (tgt := 416) eL_law_39 (by omega) (by omega) (by omega) (by rw [hv9]; rfl) (by decide) ?_
      exact X_room (c_addWork (k := 511 - t) (n := 6 * (511 - t)) hI hT hi5 (by omega) hk) ⟨by omega, by omega⟩
    · refine xa_tabIn (off := 445) (tgt := 484) eL_law_39 (by omega) (by omega) (by omega) (by rw [hv9]; rfl) (by decide) ?_
      exact X_room (c_pay (k := 511 - t) (n := 6 * (511 - t)) hI hT hi5 (by omega) hk) ⟨by omega, by omega⟩
    · refine xa_tabIn (off := 513) (tgt := 552) eL_law_39 (by omega) (by omega) (by omega) (by rw [hv9]; rfl) (by decide) ?_
      exact X_room (c_process (k := 511 - t) (n := 6 * (511 - t)) hI hT hi5 (by omega) hk) ⟨by omega, by omega⟩
    · refine xa_tabIn (off := 581) (tgt := 620) eL_law_39 (by omega) (by omega) (by omega) (by rw [hv9]; rfl) (by decide) ?_
      exact X_room (c_promise (k := 511 - t) (n := 6 * (511 - t)) hI hT hi5 (by omega) hk) ⟨by omega, by omega⟩
    · refine xa_tabIn (off := 673) (tgt := 712) eL_law_39 (by omega) (by omega) (by omega) (by rw [hv9]; rfl) (by decide) ?_
      exact X_room (c_canAccept (k := 511 - t) (n := 6 * (511 - t)) hI hT hi5 (by omega) hk) ⟨by omega, by omega⟩
    · refine xa_tabIn (off := 760) (tgt := 799) eL_law_39 (by omega) (by omega) (by omega) (by rw [hv9]; rfl) (by decide) ?_
      exact X_room (c_greatestBudget (k := 511 - t) (n := 6 * (511 - t)) hI hT hi5 (by omega) hk) ⟨by omega, by omega⟩
    · refine xa_tabIn (off := 828) (tgt := 867) eL_law_39 (by omega) (by omega) (by omega) (by rw [hv9]; rfl) (by decide) ?_
      exact X_room (c_waitFor (k := 511 - t) (n := 6 * (511 - t)) hI hT hi5 (by omega) hk) ⟨by omega, by omega⟩
    · refine xa_tabIn (off := 908) (tgt := 947) eL_law_39 (by omega) (by omega) (by omega) (by rw [hv9]; rfl) (by decide) ?_
      exact X_room (c_end (k := 511 - t) (n := 6 * (511 - t)) hI hT hi5 (by omega) hk) ⟨by omega, by omega⟩
    · refine xa_tabIn (off := 964) (tgt := 1003) eL_law_39 (by omega) (by omega) (by omega) (by rw [hv9]; rfl) (by decide) ?_
      exact X_room (c_split (k := 511 - t) (n := 6 * (511 - t)) hI hT hi5 (by omega) hk) ⟨by omega, by omega⟩
    · refine xa_tabIn (off := 1032) (tgt := 1071) eL_law_39 (by omega) (by omega) (by omega) (by rw [hv9]; rfl) (by decide) ?_
      exact X_room (c_told (k := 511 - t) (n := 6 * (511 - t)) hI hT hi5 (by omega) hk) ⟨by omega, by omega⟩
    · refine xa_tabIn (off := 1100) (tgt := 1139) eL_law_39 (by omega) (by omega) (by omega) (by rw [hv9]; rfl) (by decide) ?_
      exact X_room (c_demand (k := 511 - t) (n := 6 * (511 - t)) hI hT hi5 (by omega) hk) ⟨by omega, by omega⟩
    · refine xa_tabIn (off := 1156) (tgt := 1195) eL_law_39 (by omega) (by omega) (by omega) (by rw [hv9]; rfl) (by decide) ?_
      exact X_room (c_tightest (k := 511 - t) (n := 6 * (511 - t)) hI hT hi5 (by omega) hk) ⟨by omega, by omega⟩
    · refine xa_tabIn (off := 1169) (tgt := 1208) eL_law_39 (by omega) (by omega) (by omega) (by rw [hv9]; rfl) (by decide) ?_
      exact X_room (c_isBounded (k := 511 - t) (n := 6 * (511 - t)) hI hT hi5 (by omega) hk) ⟨by omega, by omega⟩
    · refine xa_tabIn (off := 1256) (tgt := 1295) eL_law_39 (by omega) (by omega) (by omega) (by rw [hv9]; rfl) (by decide) ?_
      exact X_room (c_load (k := 511 - t) (n := 6 * (511 - t)) hI hT hi5 (by omega) hk) ⟨by omega, by omega⟩
    · refine xa_tabIn (off := 1297) (tgt := 1336) eL_law_39 (by omega) (by omega) (by omega) (by rw [hv9]; rfl) (by decide) ?_
      exact X_room (c_spare (k := 511 - t) (n := 6 * (511 - t)) hI hT hi5 (by omega) hk) ⟨by omega, by omega⟩
    · refine xa_tabIn (off := 1310) (tgt := 1349) eL_law_39 (by omega) (by omega) (by omega) (by rw [hv9]; rfl) (by decide) ?_
      exact X_room (c_ask (k := 511 - t) (n := 6 * (511 - t)) hI hT hi5 (by omega) hk) ⟨by omega, by omega⟩
    · refine xa_tabIn (off := 1378) (tgt := 1417) eL_law_39 (by omega) (by omega) (by omega) (by rw [hv9]; rfl) (by decide) ?_
      exact X_room (c_buy (k := 511 - t) (n := 6 * (511 - t)) hI hT hi5 (by omega) hk) ⟨by omega, by omega⟩
    · refine xa_tabIn (off := 1446) (tgt := 1485) eL_law_39 (by omega) (by omega) (by omega) (by rw [hv9]; rfl) (by decide) ?_
      exact X_room (c_buyCheapest (k := 511 - t) (n := 6 * (511 - t)) hI hT hi5 (by omega) hk) ⟨by omega, by omega⟩
    · refine xa_tabIn (off := 1502) (tgt := 1541) eL_law_39 (by omega) (by omega) (by omega) (by rw [hv9]; rfl) (by decide) ?_
      exact X_room (c_lease (k := 511 - t) (n := 6 * (511 - t)) hI hT hi5 (by omega) hk) ⟨by omega, by omega⟩
    · refine xa_tabIn (off := 1594) (tgt := 1633) eL_law_39 (by omega) (by omega) (by omega) (by rw [hv9]; rfl) (by decide) ?_
      exact X_room (c_sales (k := 511 - t) (n := 6 * (511 - t)) hI hT hi5 (by omega) hk) ⟨by omega, by omega⟩
    · refine xa_tabIn (off := 1662) (tgt := 1701) eL_law_39 (by omega) (by omega) (by omega) (by rw [hv9]; rfl) (by decide) ?_
      exact X_room (c_partners (k := 511 - t) (n := 6 * (511 - t)) hI hT hi5 (by omega) hk) ⟨by omega, by omega⟩
    · refine xa_tabIn (off := 1675) (tgt := 1714) eL_law_39 (by omega) (by omega) (by omega) (by rw [hv9]; rfl) (by decide) ?_
      exact X_room (c_meanPrice (k := 511 - t) (n := 6 * (511 - t)) hI hT hi5 (by omega) hk) ⟨by omega, by omega⟩
    · refine xa_tabIn (off := 1718) (tgt := 1757) eL_law_39 (by omega) (by omega) (by omega) (by rw [hv9]; rfl) (by decide) ?_
      exact X_room (c_setRules (k := 511 - t) (n := 6 * (511 - t)) hI hT hi5 (by omega) hk) ⟨by omega, by omega⟩
    · refine xa_tabIn (off := 1766) (tgt := 1805) eL_law_39 (by omega) (by omega) (by omega) (by rw [hv9]; rfl) (by decide) ?_
      exact X_room (c_count (k := 511 - t) (n := 6 * (511 - t)) hI hT hi5 (by omega) hk) ⟨by omega, by omega⟩
    · refine xa_tabIn (off := 1822) (tgt := 1861) eL_law_39 (by omega) (by omega) (by omega) (by rw [hv9]; rfl) (by decide) ?_
      exact X_room (c_bank (k := 511 - t) (n := 6 * (511 - t)) hI hT hi5 (by omega) hk) ⟨by omega, by omega⟩
    · refine xa_tabIn (off := 1836) (tgt := 1875) eL_law_39 (by omega) (by omega) (by omega) (by rw [hv9]; rfl) (by decide) ?_
      exact X_room (c_run (k := 511 - t) (n := 6 * (511 - t)) hI hT hi5 (by omega) hk) ⟨by omega, by omega⟩
    · refine xa_tabIn (off := 1892) (tgt := 1931) eL_law_39 (by omega) (by omega) (by omega) (by rw [hv9]; rfl) (by decide) ?_
      exact X_room (c_ticksToFinish (k := 511 - t) (n := 6 * (511 - t)) hI hT hi5 (by omega) hk) ⟨by omega, by omega⟩
    · refine xa_tabIn (off := 1960) (tgt := 1999) eL_law_39 (by omega) (by omega) (by omega) (by rw [hv9]; rfl) (by decide) ?_
      exact X_room (c_moneyAfter (k := 511 - t) (n := 6 * (511 - t)) hI hT hi5 (by omega) hk) ⟨by omega, by omega⟩
    · refine xa_tabIn (off := 2028) (tgt := 2067) eL_law_39 (by omega) (by omega) (by omega) (by rw [hv9]; rfl) (by decide) ?_
      exact X_room (c_bestBid (k := 511 - t) (n := 6 * (511 - t)) hI hT hi5 (by omega) hk) ⟨by omega, by omega⟩
    · refine xa_tabIn (off := 2096) (tgt := 2135) eL_law_39 (by omega) (by omega) (by omega) (by rw [hv9]; rfl) (by decide) ?_
      exact X_room (c_appendText (k := 511 - t) (n := 6 * (511 - t)) hI hT hi5 (by omega) hk) ⟨by omega, by omega⟩
    · refine xa_tabIn (off := 2152) (tgt := 2191) eL_law_39 (by omega) (by omega) (by omega) (by rw [hv9]; rfl) (by decide) ?_
      exact X_room (c_truncateText (k := 511 - t) (n := 6 * (511 - t)) hI hT hi5 (by omega) hk) ⟨by omega, by omega⟩
    · refine xa_tabIn (off := 2208) (tgt := 2247) eL_law_39 (by omega) (by omega) (by omega) (by rw [hv9]; rfl) (by decide) ?_
      exact X_room (c_read (k := 511 - t) (n := 6 * (511 - t)) hI hT hi5 (by omega) hk) ⟨by omega, by omega⟩
    · refine xa_tabIn (off := 2221) (tgt := 2260) eL_law_39 (by omega) (by omega) (by omega) (by rw [hv9]; rfl) (by decide) ?_
      exact X_room (c_errorCode (k := 511 - t) (n := 6 * (511 - t)) hI hT hi5 (by omega) hk) ⟨by omega, by omega⟩
    · refine xa_tabIn (off := 2234) (tgt := 2273) eL_law_39 (by omega) (by omega) (by omega) (by rw [hv9]; rfl) (by decide) ?_
      exact X_room (c_errorPosition (k := 511 - t) (n := 6 * (511 - t)) hI hT hi5 (by omega) hk) ⟨by omega, by omega⟩
    · refine xa_tabIn (off := 2247) (tgt := 2286) eL_law_39 (by omega) (by omega) (by omega) (by rw [hv9]; rfl) (by decide) ?_
      exact X_room (c_save (k := 511 - t) (n := 6 * (511 - t)) hI hT hi5 (by omega) hk) ⟨by omega, by omega⟩
    · refine xa_tabIn (off := 2283) (tgt := 2322) eL_law_39 (by omega) (by omega) (by omega) (by rw [hv9]; rfl) (by decide) ?_
      exact X_room (c_restore (k := 511 - t) (n := 6 * (511 - t)) hI hT hi5 (by omega) hk) ⟨by omega, by omega⟩
    · refine xa_tabOut (tgt := 2358) eL_law_39 (by omega) (Or.inr (by omega)) (by decide) ?_
      exact X_room (hk _ _ _ _ _ _ _ _ (hI.mono (by omega))) ⟨by omega, by omega⟩
theorem INV0 : INV 0 0 0 0 xS0 := by
  refine ⟨⟨⟨rfl, Nat.zero_le _, ⟨Int.le_refl _, Int.le_refl _⟩, fun j hj => absurd hj (Nat.not_lt_zero j)⟩, Nat.zero_le _, Nat.zero_le _, ?_, fun p hp => absurd hp (Nat.not_lt_zero p), fun j hj => absurd hj (Nat.not_lt_zero j), ?_⟩, Fut.nil, ⟨fun i hi => ?_, fun p f hp hf => ?_, fun j hj => absurd hj (Nat.not_lt_zero j), fun i hi => ?_⟩, ⟨⟨rfl, rfl, Nat.zero_le _, fun j hj => absurd hj (Nat.not_lt_zero j)⟩, rfl, rfl, by decide⟩, fun i hi => ⟨Or.inl rfl, rfl, fun z => absurd z (show ¬ ((0 : Int) = 1) by decide)⟩⟩
  · refine ⟨rfl, ?_, ?_, ?_, ?_, ?_, ?_, ?_, ?_, ?_, ?_⟩ <;> decide
  · refine ⟨by decide, by decide, fun i hi => ?_⟩
    show 0 ≤ (0 : Int) ∧ (0 : Int) ≤ 0
    decide
  · have b' : i = 0 ∨ i = 1 ∨ i = 2 ∨ i = 3 ∨ i = 4 ∨ i = 5 ∨ i = 6 ∨ i = 7 ∨ i = 8 ∨ i = 9 ∨ i = 10 ∨ i = 11 ∨ i = 12 ∨ i = 13 ∨ i = 14 := by omega
    rcases b' with rfl | rfl | rfl | rfl | rfl | rfl | rfl | rfl | rfl | rfl | rfl | rfl | rfl | rfl | rfl <;> rfl
  · rw [if_neg (Nat.not_lt_zero p)]
    show (if 15 + 11 * p + f = 5 then (-1 : Int) else if 15 + 11 * p + f = 4 then 10 else if 15 + 11 * p + f = 3 then 5 else 0) = 0
    rw [if_neg (by omega), if_neg (by omega), if_neg (by omega)]
  · show (if 463 + i = 5 then (-1 : Int) else if 463 + i = 4 then 10 else if 463 + i = 3 then 5 else 0) = 0
    rw [if_neg (by omega), if_neg (by omega), if_neg (by omega)]
theorem xl_all {w : xW} {b : Nat} (hw : zPl w b) (hN : w.2.2.2.2.2.1 ≤ 2560) : Z w False mL_law (TGl w) (262 + 512) (7614 + 3072) 0 [xp 52 0, xj, xj, xj, xj, xj, xj, xj, xj] [] [] (zfin w) b := zl_law hw (xl_loop hN 0 (Nat.zero_le _) 0 0 0 xS0 xj xj xj xj INV0)
