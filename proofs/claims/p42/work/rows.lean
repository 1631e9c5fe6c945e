section
-- ===== PART A: goes FIRST, ahead of the names: the tables' words, and 'selects' of the private methods out of them =====
/-- a private method of a class that the tables say can be made, by its rows of tables_1 -/
def lw_okq (q : MethodName × Nat) : Prop := (q.1.cls ≠ "java/lang/invoke/MethodHandle" ∧ q.1.cls ≠ "java/lang/invoke/VarHandle") ∧ Cond.instantiable q.1.cls q.2 ∈ tables_1 ∧ Cond.privateMethod q.1 ∈ tables_1 ∧ Cond.instanceMethod q.1 ∈ tables_1
theorem lw_p0 : lw_okq (⟨"PromiseMarketLaw", "holds", "([I)Z"⟩, 5) := ⟨⟨by decide +kernel, by decide +kernel⟩, List.mem_of_getElem? (i := 19) (by decide +kernel), List.mem_of_getElem? (i := 343) (by decide +kernel), List.mem_of_getElem? (i := 344) (by decide +kernel)⟩
theorem lw_p1 : lw_okq (⟨"PromiseMarketLaw", "builds", "()Z"⟩, 5) := ⟨⟨by decide +kernel, by decide +kernel⟩, List.mem_of_getElem? (i := 19) (by decide +kernel), List.mem_of_getElem? (i := 347) (by decide +kernel), List.mem_of_getElem? (i := 348) (by decide +kernel)⟩
theorem lw_p2 : lw_okq (⟨"java/lang/Throwable", "fillInStackTrace", "(I)Ljava/lang/Throwable;"⟩, 6) := ⟨⟨by decide +kernel, by decide +kernel⟩, List.mem_of_getElem? (i := 406) (by decide +kernel), List.mem_of_getElem? (i := 404) (by decide +kernel), List.mem_of_getElem? (i := 405) (by decide +kernel)⟩
theorem lw_p3 : lw_okq (⟨"PromiseMarketLaw", "draw", "(I)I"⟩, 5) := ⟨⟨by decide +kernel, by decide +kernel⟩, List.mem_of_getElem? (i := 19) (by decide +kernel), List.mem_of_getElem? (i := 443) (by decide +kernel), List.mem_of_getElem? (i := 444) (by decide +kernel)⟩
theorem lw_p4 : lw_okq (⟨"PromiseMarketLaw", "vows", "()Z"⟩, 5) := ⟨⟨by decide +kernel, by decide +kernel⟩, List.mem_of_getElem? (i := 19) (by decide +kernel), List.mem_of_getElem? (i := 529) (by decide +kernel), List.mem_of_getElem? (i := 530) (by decide +kernel)⟩
theorem lw_p5 : lw_okq (⟨"PromiseMarket$Timeline", "ticksInCycle", "()I"⟩, 3) := ⟨⟨by decide +kernel, by decide +kernel⟩, List.mem_of_getElem? (i := 39) (by decide +kernel), List.mem_of_getElem? (i := 566) (by decide +kernel), List.mem_of_getElem? (i := 567) (by decide +kernel)⟩
theorem lw_p6 : lw_okq (⟨"PromiseMarketLaw", "trades", "()Z"⟩, 5) := ⟨⟨by decide +kernel, by decide +kernel⟩, List.mem_of_getElem? (i := 19) (by decide +kernel), List.mem_of_getElem? (i := 648) (by decide +kernel), List.mem_of_getElem? (i := 649) (by decide +kernel)⟩
theorem lw_p7 : lw_okq (⟨"PromiseMarketLaw", "money", "()J"⟩, 5) := ⟨⟨by decide +kernel, by decide +kernel⟩, List.mem_of_getElem? (i := 19) (by decide +kernel), List.mem_of_getElem? (i := 652) (by decide +kernel), List.mem_of_getElem? (i := 653) (by decide +kernel)⟩
theorem lw_p8 : lw_okq (⟨"PromiseMarketLaw", "ticks", "()Z"⟩, 5) := ⟨⟨by decide +kernel, by decide +kernel⟩, List.mem_of_getElem? (i := 19) (by decide +kernel), List.mem_of_getElem? (i := 811) (by decide +kernel), List.mem_of_getElem? (i := 812) (by decide +kernel)⟩
theorem lw_p9 : lw_okq (⟨"PromiseMarket$State", "passTick", "()V"⟩, 14) := ⟨⟨by decide +kernel, by decide +kernel⟩, List.mem_of_getElem? (i := 33) (by decide +kernel), List.mem_of_getElem? (i := 827) (by decide +kernel), List.mem_of_getElem? (i := 828) (by decide +kernel)⟩
theorem lw_p10 : lw_okq (⟨"PromiseMarket$State", "giveFreeTick", "()V"⟩, 14) := ⟨⟨by decide +kernel, by decide +kernel⟩, List.mem_of_getElem? (i := 33) (by decide +kernel), List.mem_of_getElem? (i := 838) (by decide +kernel), List.mem_of_getElem? (i := 839) (by decide +kernel)⟩
theorem lw_p11 : lw_okq (⟨"PromiseMarket$State", "nextWithBacklog", "()I"⟩, 14) := ⟨⟨by decide +kernel, by decide +kernel⟩, List.mem_of_getElem? (i := 33) (by decide +kernel), List.mem_of_getElem? (i := 842) (by decide +kernel), List.mem_of_getElem? (i := 843) (by decide +kernel)⟩
theorem lw_p12 : lw_okq (⟨"PromiseMarket$State", "giveTickOf", "(LPromiseMarket$Promise;)V"⟩, 14) := ⟨⟨by decide +kernel, by decide +kernel⟩, List.mem_of_getElem? (i := 33) (by decide +kernel), List.mem_of_getElem? (i := 846) (by decide +kernel), List.mem_of_getElem? (i := 847) (by decide +kernel)⟩
theorem lw_p13 : lw_okq (⟨"PromiseMarket$State", "highestBidder", "()LPromiseMarket$Process;"⟩, 14) := ⟨⟨by decide +kernel, by decide +kernel⟩, List.mem_of_getElem? (i := 33) (by decide +kernel), List.mem_of_getElem? (i := 850) (by decide +kernel), List.mem_of_getElem? (i := 851) (by decide +kernel)⟩
theorem lw_p14 : lw_okq (⟨"PromiseMarket$State", "payPenalty", "(LPromiseMarket$Process;)V"⟩, 14) := ⟨⟨by decide +kernel, by decide +kernel⟩, List.mem_of_getElem? (i := 33) (by decide +kernel), List.mem_of_getElem? (i := 861) (by decide +kernel), List.mem_of_getElem? (i := 862) (by decide +kernel)⟩
theorem lw_p15 : lw_okq (⟨"PromiseMarketLaw", "jobs", "()Z"⟩, 5) := ⟨⟨by decide +kernel, by decide +kernel⟩, List.mem_of_getElem? (i := 19) (by decide +kernel), List.mem_of_getElem? (i := 868) (by decide +kernel), List.mem_of_getElem? (i := 869) (by decide +kernel)⟩
def lw_privs_1 : List (MethodName × Nat) := [(⟨"PromiseMarketLaw", "holds", "([I)Z"⟩, 5), (⟨"PromiseMarketLaw", "builds", "()Z"⟩, 5), (⟨"java/lang/Throwable", "fillInStackTrace", "(I)Ljava/lang/Throwable;"⟩, 6), (⟨"PromiseMarketLaw", "draw", "(I)I"⟩, 5), (⟨"PromiseMarketLaw", "vows", "()Z"⟩, 5), (⟨"PromiseMarket$Timeline", "ticksInCycle", "()I"⟩, 3), (⟨"PromiseMarketLaw", "trades", "()Z"⟩, 5), (⟨"PromiseMarketLaw", "money", "()J"⟩, 5), (⟨"PromiseMarketLaw", "ticks", "()Z"⟩, 5), (⟨"PromiseMarket$State", "passTick", "()V"⟩, 14), (⟨"PromiseMarket$State", "giveFreeTick", "()V"⟩, 14), (⟨"PromiseMarket$State", "nextWithBacklog", "()I"⟩, 14), (⟨"PromiseMarket$State", "giveTickOf", "(LPromiseMarket$Promise;)V"⟩, 14), (⟨"PromiseMarket$State", "highestBidder", "()LPromiseMarket$Process;"⟩, 14), (⟨"PromiseMarket$State", "payPenalty", "(LPromiseMarket$Process;)V"⟩, 14), (⟨"PromiseMarketLaw", "jobs", "()Z"⟩, 5)]
theorem lw_r1 : ∀ q ∈ lw_privs_1, lw_okq q := List.forall_mem_cons.mpr ⟨lw_p0, List.forall_mem_cons.mpr ⟨lw_p1, List.forall_mem_cons.mpr ⟨lw_p2, List.forall_mem_cons.mpr ⟨lw_p3, List.forall_mem_cons.mpr ⟨lw_p4, List.forall_mem_cons.mpr ⟨lw_p5, List.forall_mem_cons.mpr ⟨lw_p6, List.forall_mem_cons.mpr ⟨lw_p7, List.forall_mem_cons.mpr ⟨lw_p8, List.forall_mem_cons.mpr ⟨lw_p9, List.forall_mem_cons.mpr ⟨lw_p10, List.forall_mem_cons.mpr ⟨lw_p11, List.forall_mem_cons.mpr ⟨lw_p12, List.forall_mem_cons.mpr ⟨lw_p13, List.forall_mem_cons.mpr ⟨lw_p14, List.forall_mem_cons.mpr ⟨lw_p15, fun _ h => absurd h List.not_mem_nil⟩⟩⟩⟩⟩⟩⟩⟩⟩⟩⟩⟩⟩⟩⟩⟩
theorem lw_p16 : lw_okq (⟨"PromiseMarketLaw", "sums", "()Z"⟩, 5) := ⟨⟨by decide +kernel, by decide +kernel⟩, List.mem_of_getElem? (i := 19) (by decide +kernel), List.mem_of_getElem? (i := 872) (by decide +kernel), List.mem_of_getElem? (i := 873) (by decide +kernel)⟩
theorem lw_p17 : lw_okq (⟨"PromiseMarketLaw", "foretells", "()Z"⟩, 5) := ⟨⟨by decide +kernel, by decide +kernel⟩, List.mem_of_getElem? (i := 19) (by decide +kernel), List.mem_of_getElem? (i := 889) (by decide +kernel), List.mem_of_getElem? (i := 890) (by decide +kernel)⟩
def lw_privs_2 : List (MethodName × Nat) := [(⟨"PromiseMarketLaw", "sums", "()Z"⟩, 5), (⟨"PromiseMarketLaw", "foretells", "()Z"⟩, 5)]
theorem lw_r2 : ∀ q ∈ lw_privs_2, lw_okq q := List.forall_mem_cons.mpr ⟨lw_p16, List.forall_mem_cons.mpr ⟨lw_p17, fun _ h => absurd h List.not_mem_nil⟩⟩
def lw_privs : List (MethodName × Nat) := lw_privs_1 ++ (lw_privs_2)
def lw_tbl : List Cond := k2_sels lw_privs ++ tables_1
theorem lw_privs_ok : ∀ q ∈ lw_privs, lw_okq q := by
  show ∀ q ∈ lw_privs_1 ++ (lw_privs_2), lw_okq q
  exact List.forall_mem_append.mpr ⟨lw_r1, lw_r2⟩
/-- the streams that the claim lets the run draw from -/
abbrev lw_cs : List Choice := [Jvm.Choice.named "NaN.bits"]
theorem lw_bits : nanBits ∈ lw_cs := by first | decide | exact List.mem_cons_self | simp [lw_cs, nanBits]
end
section
/-! ===== BEGIN words of one list among another's, by their places ===== -/
theorem goodIn_r {big : List Cond} (ws : List Cond) (ps : List Nat) (hp : ws = ps.filterMap (fun i => big[i]?)) (h : ws.all goodWord = true) : GoodIn big ws := by
  intro w hw
  have h1 := List.all_eq_true.mp h w hw
  rw [hp] at hw
  obtain ⟨i, -, hi⟩ := List.mem_filterMap.mp hw
  have hm : w ∈ big := by first | exact List.mem_of_getElem? hi | exact List.getElem?_mem hi
  exact ⟨hm, good_of_word h1⟩
theorem goodIn_app {big a b : List Cond} (ha : GoodIn big a) (hb : GoodIn big b) : GoodIn big (a ++ b) := fun w h => (List.mem_append.mp h).elim (ha w) (hb w)
theorem goodIn_ca {big a b : List Cond} {c : Cond} (ha : GoodIn big (c :: a)) (hb : GoodIn big b) : GoodIn big (c :: (a ++ b)) := fun w h => (List.mem_cons.mp h).elim (fun e => ha w (List.mem_cons.mpr (Or.inl e))) (fun h => (List.mem_append.mp h).elim (fun h => ha w (List.mem_cons.mpr (Or.inr h))) (hb w))
theorem goodIn_sub {big ws : List Cond} (hm : ∀ w ∈ ws, w ∈ big) (h : ws.all goodWord = true) : GoodIn big ws := fun w hw => ⟨hm w hw, good_of_word (List.all_eq_true.mp h w hw)⟩
/-! ===== END ===== -/

/-! ===== BEGIN exceptions that leave a method, and their catching by the caller (launches without stack traces) ===== -/
section VXA
/-! The laws vx_back, vx_callV, vx_callS, vx_callSW, vx_throw0, vx_throwS follow proofs of the library, with one case more: JvmDerived/Free/Laws.lean (Back.of_free), Shelf42/LK1.lean (callV, callS), Shelf/KitTraced.lean (throwNew0V, throwNewS). -/
/-- where a method has thrown q: the class by its name, the cell, what was written, the world -/
def vx_T (XC : String → State → State → Prop) (st : State) (q : Addr) (t : State) (mc ms : Nat) (free : Addr → Prop) : Prop :=
  ∃ (E : String) (ce : Cell) (L : List Loc), XC E st t ∧ t.heap[q]? = some ce ∧ ce.vm = .none ∧ st.vm.findClass E = some ce.cls ∧ st.WarmedH t.vm ∧ st.sameButNew ({ t with vm := st.vm } : State) L mc ms ∧ ∀ z ∈ L, free z.base
def vx_Q (Qc : Array Value → State → Outcome → State → Prop) (XC : String → State → State → Prop) (mc ms : Nat) (free : Addr → Prop) : Array Value → State → Outcome → State → Prop := fun a st o t =>
  (Qc a st o t ∧ ∃ L, FrameEnd st o t L mc ms ∧ ∀ q ∈ L, free q.base) ∨ ∃ q, o = .threw q ∧ vx_T XC st q t mc ms free
/-- a callee that returns or throws -/
def vx_Met (l : Launch) (y : MethodName) (ws : List Cond) (rm : Room) (Pc : Array Value → State → Prop) (Qc : Array Value → State → Outcome → State → Prop) (XC : String → State → State → Prop) (mc ms : Nat) (free : Addr → Prop) : Prop :=
  MetFree l y (headSpec ws rm) Pc (fun _ _ _ _ _ => True) (vx_Q Qc XC mc ms free)
def vx_Post (XC : String → State → State → Prop) (mc ms : Nat) (free : Addr → Prop) : Pt → Array Value → Addr → Pt → Prop := fun A a q B =>
  ∃ (g : JFrame) (mk : MethodId) (t : State) (L : List Loc) (E : String) (ce : Cell), B.U.heap = t.heap ∧ B.U.vm = t.vm ∧ XC E (A.U.calling g mk a) t ∧ t.heap[q]? = some ce ∧ ce.vm = .none ∧ A.U.vm.findClass E = some ce.cls ∧ B.locs = A.locs ++ L ∧ (∀ z ∈ L, free z.base) ∧ B.cells = A.cells + mc ∧ B.slots = A.slots + ms
def vx_Back (l : Launch) (R : Room) (p : Program) (e : Env) (below : List Frame) (s : State) (sargs : Array Value) (y : MethodName) (len W9 : Nat)
    (Pre : Pt → Array Value → Prop) (Post : Pt → Array Value → Option Value → Pt → Prop) (PostX : Pt → Array Value → Addr → Pt → Prop) : Prop :=
  ∀ (m : MethodId) (meth : Method) (c : Code) (A : Pt) (g : JFrame) (ig : Instr) (mk : MethodId) (a : Array Value),
    Stand p l e R s m sargs below meth c A.U A.locs A.cells A.slots → g.method = m → g.locals.size = c.maxLocals → decode c.code g.pc = .ok (ig, len) →
    2 * g.monitorRoom + (g.stack.map fun v => v.category).sum ≤ W9 → A.U.methodNamed? y = some mk → Pre A a →
    (∃ (v : Option Value) (B : Pt), Stand p l e R s m sargs below meth c B.U B.locs B.cells B.slots ∧ Post A a v B ∧
      Steps p.tables e below (doInvoke e (A.U.setTop g) [] mk a).1 (B.U.setTop { g with pc := g.pc + len, stack := v.toList ++ g.stack })) ∨
    (∃ (q : Addr) (B : Pt), Stand p l e R s m sargs below meth c B.U B.locs B.cells B.slots ∧ PostX A a q B ∧
      Steps p.tables e below (doInvoke e (A.U.setTop g) [] mk a).1 ((B.U.setTop g).pushFrame (.throwing q)))
section Payer
variable {l : Launch} {R : Room} {p : Program} {e : Env} {below : List Frame} {s : State} {sargs : Array Value} {y : MethodName} {len W9 : Nat}
theorem vx_back {ws : List Cond} {rm : Room} {Pc : Array Value → State → Prop} {Qc : Array Value → State → Outcome → State → Prop} {XC : String → State → State → Prop} {mc ms : Nat} {free : Addr → Prop} {bytes : ByteArray} {maxL : Nat} {ret : Option FieldType}
    (hM : vx_Met l y ws rm Pc Qc XC mc ms free) (hblind : FrameBlind Pc) (hrc : rm.cells = mc) (hrs : rm.slots = ms)
    (hframes : rm.frames + 1 ≤ R.frames) (hlocals : W9 + (maxL + 11) + rm.locals ≤ R.locals)
    (hws : ∀ w ∈ ws, ∀ a' U, s.WarmedH U.vm → w.before a' U = true) (hcode : Cond.code y bytes maxL ret ∈ ws) (hinit : ∀ a' U, s.WarmedH U.vm → (Cond.initialized y.cls).before a' U = true) :
    vx_Back l R p e below s sargs y len W9 (PreOf R mc ms Pc) (PostOf Qc mc ms free) (vx_Post XC mc ms free) := by
  intro m meth c A g ig mk a X hg hsize hdg hW hn hp
  have h1 : (headSpec ws rm).pre.before a A.U = true := atoms_intro fun w hw => hws w hw _ _ X.warmed
  have h2 : (Cond.code y bytes maxL ret).before a A.U = true := hws _ hcode _ _ X.warmed
  have h3 : (Cond.initialized y.cls).before a A.U = true := hinit _ _ X.warmed
  have h4 : A.cells + (headSpec ws rm).room.cells ≤ R.cells := by rw [show (headSpec ws rm).room.cells = mc from hrc]; exact hp.1
  have h5 : A.slots + (headSpec ws rm).room.slots ≤ R.slots := by rw [show (headSpec ws rm).room.slots = ms from hrs]; exact hp.2.1
  have hPc : Pc a (A.U.calling g mk a) := hblind _ _ _ _ hp.2.2
  obtain ⟨U, Ls, c0, s0⟩ := A
  dsimp only [Pt.U, Pt.locs, Pt.cells, Pt.slots] at h1 h2 h3 h4 h5 X hn hPc ⊢
  obtain ⟨methY, cY, hmY, hcY, -, hlY, -, -, -, -⟩ := Cond.code_spec hn h2
  obtain ⟨kY, hkY, -⟩ := className_of_methodNamed hn
  have hinitY : kY.init = .initialized := Cond.initialized_spec (findClass_of_methodNamed hn) hkY h3
  have h : At U g.method c below := by rw [hg]; exact X.here
  have hlocals9 : W9 + (maxL + 11) + (headSpec ws rm).room.locals ≤ R.locals := hlocals
  have happ : (headSpec ws rm).appliesLoose y e.platform (U.calling g mk a) = true :=
    Spec.appliesLoose_calling (g := g) h hdg hn hkY hinitY
      (X.room_calling (g := g) (R' := (headSpec ws rm).room) hsize hmY hcY hframes (by rw [hlY]; omega) h4 h5) h1
  obtain ⟨mid, hmid⟩ := h.above
  have hfr : (U.setTop g).frames = (.java g :: mid) ++ below := by rw [State.frames_setTop' g h.top, hmid]; rfl
  obtain ⟨o, s₂, hsteps, -, hend, hq⟩ := Steps.callFree hM p X.admits X.cas X.clock (acts := []) hfr happ hPc trivial
  have hq' : vx_Q Qc XC mc ms free a (U.calling g mk a) o s₂ := hq
  rw [State.frames_setTop' g h.top] at hend
  obtain ⟨g₀, hg0⟩ := Option.isSome_iff_exists.mp h.top
  obtain ⟨r, hr⟩ := State.topJava?_eq_some.mp hg0
  have hr' : (({ U with heap := s₂.heap, slotsUsed := s₂.slotsUsed } : State).setVm s₂.vm).frames = .java g₀ :: r := hr
  rcases hq' with ⟨hqc, L, hfe, hL⟩ | ⟨q, rfl, E, ce, L, hx, hce, hcv, hcl, hW₂, hsm, hL⟩
  · obtain ⟨⟨v, rfl⟩, hW₂, e2, q2, q3, q4, q5, q6⟩ := id hfe
    have e3 : s₂ = ({ (U.calling g mk a).setFrames s₂.frames with heap := s₂.heap, slotsUsed := s₂.slotsUsed } : State).setVm s₂.vm := by
      have : s₂ = ({ s₂ with vm := (U.calling g mk a).vm } : State).setVm s₂.vm := rfl
      rw [e2] at this
      exact this
    obtain ⟨c₂, i₂, len₂, hc₂, hd₂, hf₂⟩ := hend
    have hW' : U.WarmedH s₂.vm := hW₂
    have hcc : c₂ = c := by
      have h1 : s₂.code? g.method = U.code? g.method := by
        rw [State.code?_eq, State.code?_eq, hW'.alike.method?]
      exact Option.some.inj (hc₂.symm.trans (h1.trans h.code))
    subst hcc
    have hlen : len₂ = len := by rw [hdg] at hd₂; cases hd₂; rfl
    subst hlen
    have hs₂ : s₂ = (({ U with heap := s₂.heap, slotsUsed := s₂.slotsUsed } : State).setVm s₂.vm).setTop { g with pc := g.pc + len₂, stack := v.toList ++ g.stack } := by
      refine e3.trans ?_
      rw [hf₂, State.calling_eq h.top, State.setFrames_setFrames, State.setTop_of_frames _ hr', hr]
      rfl
    have hsame : U.sameButNew ({ U with heap := s₂.heap, slotsUsed := s₂.slotsUsed } : State) L mc ms := by
      refine ⟨?_, q2, q3, q4, q5, q6⟩
      obtain ⟨t, ht, -⟩ := State.frames_cons hr
      show ({ U with heap := s₂.heap, slotsUsed := s₂.slotsUsed } : State) = { U.setFrames U.frames with heap := s₂.heap, slotsUsed := s₂.slotsUsed }
      rw [State.setFrames_self ht]
    subst hg
    refine Or.inl ⟨v, ⟨(({ U with heap := s₂.heap, slotsUsed := s₂.slotsUsed } : State).setVm s₂.vm), Ls ++ L, c0 + mc, s0 + ms⟩,
      ⟨X.admits, X.cas, X.clock, X.frames, X.room, X.hears, X.method, X.code, (X.here.setHeapUsed s₂.heap s₂.slotsUsed).setVm hW'.alike, X.tail, State.WarmedH.trans X.warmed hW', X.limits, X.bytes, X.same.trans (hsame.setVm s.vm)⟩,
      ⟨g, mk, s₂, L, rfl, rfl, hqc, rfl, hL, rfl, rfl⟩, ?_⟩
    show Steps p.tables e below _ ((({ U with heap := s₂.heap, slotsUsed := s₂.slotsUsed } : State).setVm s₂.vm).setTop { g with pc := g.pc + len₂, stack := v.toList ++ g.stack })
    rw [← hs₂]
    exact hsteps
  · obtain ⟨e2, q2, q3, q4, q5, q6⟩ := id hsm
    have e3 : s₂ = ({ (U.calling g mk a).setFrames s₂.frames with heap := s₂.heap, slotsUsed := s₂.slotsUsed } : State).setVm s₂.vm := by
      have : s₂ = ({ s₂ with vm := (U.calling g mk a).vm } : State).setVm s₂.vm := rfl
      rw [e2] at this
      exact this
    have hf₂ : s₂.frames = .throwing q :: .java g :: U.frames.tail := hend
    have hW' : U.WarmedH s₂.vm := hW₂
    have hs₂ : s₂ = ((({ U with heap := s₂.heap, slotsUsed := s₂.slotsUsed } : State).setVm s₂.vm).setTop g).pushFrame (.throwing q) := by
      refine e3.trans ?_
      rw [hf₂, State.calling_eq h.top, State.setFrames_setFrames, State.pushFrame, State.frames_setTop _ hr', State.setTop_of_frames _ hr', State.setFrames_setFrames, hr]
      rfl
    have hsame : U.sameButNew ({ U with heap := s₂.heap, slotsUsed := s₂.slotsUsed } : State) L mc ms := by
      refine ⟨?_, q2, q3, q4, q5, q6⟩
      obtain ⟨t, ht, -⟩ := State.frames_cons hr
      show ({ U with heap := s₂.heap, slotsUsed := s₂.slotsUsed } : State) = { U.setFrames U.frames with heap := s₂.heap, slotsUsed := s₂.slotsUsed }
      rw [State.setFrames_self ht]
    subst hg
    refine Or.inr ⟨q, ⟨(({ U with heap := s₂.heap, slotsUsed := s₂.slotsUsed } : State).setVm s₂.vm), Ls ++ L, c0 + mc, s0 + ms⟩,
      ⟨X.admits, X.cas, X.clock, X.frames, X.room, X.hears, X.method, X.code, (X.here.setHeapUsed s₂.heap s₂.slotsUsed).setVm hW'.alike, X.tail, State.WarmedH.trans X.warmed hW', X.limits, X.bytes, X.same.trans (hsame.setVm s.vm)⟩,
      ⟨g, mk, s₂, L, E, ce, rfl, rfl, hx, hce, hcv, hcl, rfl, hL, rfl, rfl⟩, ?_⟩
    show Steps p.tables e below _ (((({ U with heap := s₂.heap, slotsUsed := s₂.slotsUsed } : State).setVm s₂.vm).setTop g).pushFrame (.throwing q))
    rw [← hs₂]
    exact hsteps
end Payer
section Calls
variable {p : Program} {l : Launch} {e : Env} {R : Room} {s : State} {m : MethodId} {args : Array Value} {below : List Frame} {meth : Method} {c : Code} {T : State} {locs : List Loc} {cells slots : Nat}
theorem vx_callV (X : Stand p l e R s m args below meth c T locs cells slots) (hexec : p.tables.exec = Jvm.exec) {own C : String} {index : Nat} {y : MethodName} {bytes : ByteArray} {maxL : Nat} {ret : Option FieldType}
    (hown : s.vm.findClass own = some m.cls) (hlink : (Cond.methodLink own index y).before args s = true) (hinst : (Cond.instanceMethod y).before args s = true) (hsel : (Cond.selects C y y).before args s = true)
    (hcode : (Cond.code y bytes maxL ret).before args s = true) (hy : y.cls ≠ "java/lang/invoke/MethodHandle" ∧ y.cls ≠ "java/lang/invoke/VarHandle")
    {W9 : Nat} {Pre : Pt → Array Value → Prop} {Post : Pt → Array Value → Option Value → Pt → Prop} {PostX : Pt → Array Value → Addr → Pt → Prop} (hK : vx_Back l R p e below s args y 3 W9 Pre Post PostX)
    {b : Addr} {cellB : Cell} (hcell : T.heap[b]? = some cellB) (hobj : cellB.vm.isStatics = false) (hcls : s.vm.findClass C = some cellB.cls)
    {g : JFrame} (hg : g.method = m) (hsize : g.locals.size = c.maxLocals) {argsL rest : List Value} (hlen : ∀ sig, parseMethodDescriptor y.desc = some sig → argsL.length = sig.parameters.length)
    (hstack : g.stack = argsL.reverse ++ .ref b :: rest) (hW : 2 * g.monitorRoom + (rest.map fun v => v.category).sum ≤ W9) (hdg : decode c.code g.pc = .ok (.invokevirtual index, 3))
    (hpre : ∀ vm₁, s.WarmedH vm₁ → Pre ⟨T.setVm vm₁, locs, cells, slots⟩ (Value.ref b :: argsL).toArray) :
    (∃ (v : Option Value) (vm₁ : Vm) (B : Pt), s.WarmedH vm₁ ∧ Stand p l e R s m args below meth c B.U B.locs B.cells B.slots ∧ Post ⟨T.setVm vm₁, locs, cells, slots⟩ (Value.ref b :: argsL).toArray v B ∧
      ∀ target, Steps p.tables e below (B.U.setTop { g with pc := g.pc + 3, stack := v.toList ++ rest }) target → Steps p.tables e below (T.setTop g) target) ∨
    (∃ (q : Addr) (vm₁ : Vm) (B : Pt), s.WarmedH vm₁ ∧ Stand p l e R s m args below meth c B.U B.locs B.cells B.slots ∧ PostX ⟨T.setVm vm₁, locs, cells, slots⟩ (Value.ref b :: argsL).toArray q B ∧
      Steps p.tables e below (T.setTop g) ((B.U.setTop { g with stack := rest }).pushFrame (.throwing q))) := by
  obtain ⟨mk, methM, hnamed, hmethM, hstM, habM⟩ := Cond.instanceMethod_spec hinst
  obtain ⟨methM', cM, hmethM', -, -, -, -, -, -, hsigM⟩ := Cond.code_spec hnamed hcode
  cases hmethM.symm.trans hmethM'
  obtain ⟨c2, r2, m2, q1, q2, q3, q4, kP, hkP, hkPi⟩ := Cond.selects_spec hsel
  cases hcls.symm.trans q1
  cases (State.methodFound?_of_named hnamed hy).symm.trans q2
  cases hnamed.symm.trans q3
  have hselP : selectMethod e.platform s.vm cellB.cls mk = .method mk := by rw [Launch.admits_selectMethod X.admits]; exact q4
  obtain ⟨vm₁, X₁, hstep₁⟩ := X.invokevirtual hexec hown hlink hnamed hmethM hstM hkP hkPi hy (a := b) (cell := cellB) hcell
    (fun z h => by rw [h] at hobj; cases hobj) hselP hmethM habM hkP hkPi (g := g) hg (argsL := argsL) (rest := rest) (hlen _ hsigM) hstack hdg
  rcases hK m meth c ⟨T.setVm vm₁, locs, cells, slots⟩ { g with stack := rest } (.invokevirtual index) mk (Value.ref b :: argsL).toArray X₁ hg hsize hdg hW (X₁.named hnamed) (hpre vm₁ X₁.warmed) with ⟨v, B, X', hpost, hsteps⟩ | ⟨q, B, X', hpost, hsteps⟩
  · exact Or.inl ⟨v, vm₁, B, X₁.warmed, X', hpost, fun target h => hstep₁ _ fun acts => by rw [doInvoke_state]; exact hsteps.trans h⟩
  · exact Or.inr ⟨q, vm₁, B, X₁.warmed, X', hpost, hstep₁ _ fun acts => by rw [doInvoke_state]; exact hsteps⟩
theorem vx_callS (X : Stand p l e R s m args below meth c T locs cells slots) (hexec : p.tables.exec = Jvm.exec) {own : String} {index : Nat} {y : MethodName} {bytes : ByteArray} {maxL : Nat} {ret : Option FieldType}
    (hown : s.vm.findClass own = some m.cls) (hlink : (Cond.methodLink own index y).before args s = true) (hstat : (Cond.static y).before args s = true) (hinit : (Cond.initialized y.cls).before args s = true)
    (hcode : (Cond.code y bytes maxL ret).before args s = true) (hy : y.cls ≠ "java/lang/invoke/MethodHandle" ∧ y.cls ≠ "java/lang/invoke/VarHandle")
    {W9 : Nat} {Pre : Pt → Array Value → Prop} {Post : Pt → Array Value → Option Value → Pt → Prop} {PostX : Pt → Array Value → Addr → Pt → Prop} (hK : vx_Back l R p e below s args y 3 W9 Pre Post PostX)
    {g : JFrame} (hg : g.method = m) (hsize : g.locals.size = c.maxLocals) {argsL rest : List Value} (hlen : ∀ sig, parseMethodDescriptor y.desc = some sig → argsL.length = sig.parameters.length)
    (hstack : g.stack = argsL.reverse ++ rest) (hW : 2 * g.monitorRoom + (rest.map fun v => v.category).sum ≤ W9) (hdg : decode c.code g.pc = .ok (.invokestatic index, 3))
    (hpre : ∀ vm₁, s.WarmedH vm₁ → Pre ⟨T.setVm vm₁, locs, cells, slots⟩ argsL.toArray) :
    (∃ (v : Option Value) (vm₁ : Vm) (B : Pt), s.WarmedH vm₁ ∧ Stand p l e R s m args below meth c B.U B.locs B.cells B.slots ∧ Post ⟨T.setVm vm₁, locs, cells, slots⟩ argsL.toArray v B ∧
      ∀ target, Steps p.tables e below (B.U.setTop { g with pc := g.pc + 3, stack := v.toList ++ rest }) target → Steps p.tables e below (T.setTop g) target) ∨
    (∃ (q : Addr) (vm₁ : Vm) (B : Pt), s.WarmedH vm₁ ∧ Stand p l e R s m args below meth c B.U B.locs B.cells B.slots ∧ PostX ⟨T.setVm vm₁, locs, cells, slots⟩ argsL.toArray q B ∧
      Steps p.tables e below (T.setTop g) ((B.U.setTop { g with stack := rest }).pushFrame (.throwing q))) := by
  obtain ⟨mk, hnamed⟩ := Cond.code_named hcode
  obtain ⟨methM, cM, hmethM, -, -, -, -, -, -, hsigM⟩ := Cond.code_spec hnamed hcode
  have hstatic : methM.isStatic = true := Cond.static_spec hnamed hmethM hstat
  obtain ⟨kP, hkP, -⟩ := className_of_methodNamed hnamed
  have hinitP : kP.init = .initialized := Cond.initialized_spec (findClass_of_methodNamed hnamed) hkP hinit
  obtain ⟨vm₁, X₁, hstep₁⟩ := X.invokestatic hexec hown hlink hnamed hmethM hstatic hkP hinitP hy (g := g) hg (argsL := argsL) (rest := rest) (hlen _ hsigM) hstack hdg
  rcases hK m meth c ⟨T.setVm vm₁, locs, cells, slots⟩ { g with stack := rest } (.invokestatic index) mk argsL.toArray X₁ hg hsize hdg hW (X₁.named hnamed) (hpre vm₁ X₁.warmed) with ⟨v, B, X', hpost, hsteps⟩ | ⟨q, B, X', hpost, hsteps⟩
  · exact Or.inl ⟨v, vm₁, B, X₁.warmed, X', hpost, fun target h => hstep₁ _ fun acts => by rw [doInvoke_state]; exact hsteps.trans h⟩
  · exact Or.inr ⟨q, vm₁, B, X₁.warmed, X', hpost, hstep₁ _ fun acts => by rw [doInvoke_state]; exact hsteps⟩
end Calls
theorem vx_cls {s : State} {T : State} {vm₁ : Vm} {E : String} {k : ClassId} (hW : s.WarmedH vm₁) (h : (T.setVm vm₁).vm.findClass E = some k) : s.vm.findClass E = some k := by
  have h1 : vm₁.findClass E = some k := h
  rw [hW.alike.findClass] at h1
  exact h1
/-- the method's frame g, with q thrown over it -/
def vx_W (p : Program) (l : Launch) (e : Env) (R : Room) (s : State) (m : MethodId) (args : Array Value) (below : List Frame) (meth : Method) (c : Code) (H : Heap) (locs : List Loc) (cells slots : Nat) (Q : State → Prop) (g : JFrame) (q : Addr) : Prop :=
  ∀ T : State, T.heap = H → Stand p l e R s m args below meth c T locs cells slots → ∃ t, Steps p.tables e below ((T.setTop g).pushFrame (.throwing q)) t ∧ Q t
def vx_Run (p : Program) (l : Launch) (e : Env) (R : Room) (s : State) (m : MethodId) (args : Array Value) (below : List Frame) (meth : Method) (c : Code) (H : Heap) (locs : List Loc) (cells slots mc ms : Nat) (g : JFrame) (rest : List Value) (Qa : State → Outcome → State → Prop) (XC : String → State → State → Prop) (free : Addr → Prop) : Prop :=
  ∀ T : State, T.heap = H → Stand p l e R s m args below meth c T locs cells slots →
    (∃ (v : Option Value) (st₀ t T' : State) (L : List Loc), st₀.heap = H ∧ Stand p l e R s m args below meth c T' (locs ++ L) (cells + mc) (slots + ms) ∧ (∀ q ∈ L, free q.base) ∧ T'.heap = t.heap ∧ T'.vm = t.vm ∧ Qa st₀ (.returned v) t ∧
      Goes p e below T g T' { g with pc := g.pc + 3, stack := v.toList ++ rest }) ∨
    (∃ (q : Addr) (st₀ t T' : State) (L : List Loc) (E : String) (ce : Cell), st₀.heap = H ∧ Stand p l e R s m args below meth c T' (locs ++ L) (cells + mc) (slots + ms) ∧ (∀ z ∈ L, free z.base) ∧ T'.heap = t.heap ∧ T'.vm = t.vm ∧ XC E st₀ t ∧ t.heap[q]? = some ce ∧ ce.vm = .none ∧ s.vm.findClass E = some ce.cls ∧
      Steps p.tables e below (T.setTop g) ((T'.setTop { g with stack := rest }).pushFrame (.throwing q)))
def vx_X {S : Type} (px : S → Prop) (B : String → S → State → Prop) (A : Nat → Prop) : String → State → State → Prop := fun E st t => ∃ u : S, px u ∧ B E u t ∧ va_F A st t
section Runs
variable {p : Program} {l : Launch} {e : Env} {R : Room} {s : State} {m : MethodId} {args : Array Value} {below : List Frame} {meth : Method} {c : Code} {H : Heap} {locs : List Loc} {cells slots : Nat}
variable {y : MethodName} {bytes cc : ByteArray} {maxL nL mc ms n index : Nat} {ret : Option FieldType} {ws : List Cond} {rm : Room} {Pc : Array Value → State → Prop} {Qc : Array Value → State → Outcome → State → Prop} {XC : String → State → State → Prop} {free : Addr → Prop} {Ts : List Cond} {own C : String} {b : Addr} {As rest : List Value} {g : JFrame}
theorem vx_callBack (cb : CallB R s args own index y bytes maxL ret ws rm mc ms n) (hM : vx_Met l y ws rm Pc Qc XC mc ms free) (hbl : FrameBlind Pc) : vx_Back l R p e below s args y 3 8 (PreOf R mc ms Pc) (PostOf Qc mc ms free) (vx_Post XC mc ms free) := by
  obtain ⟨hrc, hrs, hfr, hlo, hws, hcw, -, hini, -⟩ := cb
  exact vx_back (bytes := bytes) (maxL := maxL) (ret := ret) hM hbl hrc hrs hfr hlo hws hcw (fun a' U hW => word_at hW (Or.inl (by first | rfl | simp [Cond.onTables, Cond.keeps, Cond.steady])) hini)
theorem vx_runV (S : CallFix p m c cc nL s args Ts own) (hM : vx_Met l y ws rm Pc Qc XC mc ms free) (cw : CallW R s args own C index y bytes maxL ret ws rm mc ms n) (hp : PreV s H C b Pc As)
    (hg : g.method = m) (hn : As.length = n) (hsize : g.locals.size = nL) (hstack : g.stack = As.reverse ++ .ref b :: rest) (hW : 2 * g.monitorRoom + (rest.map fun v => v.category).sum ≤ 8) (hdg : decode cc g.pc = .ok (.invokevirtual index, 3)) (hf : cells + mc ≤ R.cells ∧ slots + ms ≤ R.slots) :
    vx_Run p l e R s m args below meth c H locs cells slots mc ms g rest (Qc (Value.ref b :: As).toArray) XC free := by
  have hK : vx_Back l R p e below s args y 3 8 (PreOf R mc ms Pc) (PostOf Qc mc ms free) (vx_Post XC mc ms free) := vx_callBack cw.1 hM hp.1
  obtain ⟨⟨-, -, -, -, -, -, hcode, -, hy, hlen, hl⟩, hin, hse⟩ := cw
  obtain ⟨hx, hb, hml, ho, -⟩ := S
  obtain ⟨-, ⟨cellB, hcB, hoB, hclB⟩, hPc⟩ := hp
  intro T hT X
  rcases vx_callV X hx (C := C) (bytes := bytes) (maxL := maxL) (ret := ret) ho hl hin hse hcode hy hK (by rw [hT]; exact hcB) hoB hclB hg (hsize.trans hml.symm) (argsL := As) (rest := rest) (fun sig h => hn.trans (hlen sig h)) hstack hW (by rw [hb]; exact hdg)
    (fun vm₁ hW₁ => ⟨hf.1, hf.2, hPc (T.setVm vm₁) hT hW₁⟩) with ⟨v, vm₁, ⟨U', l2, c2, s2⟩, hW₁, X', ⟨g', mk, t, L, e1, e2, hq, h1, hL, h2, h3⟩, st⟩ | ⟨q, vm₁, ⟨U', l2, c2, s2⟩, hW₁, X', ⟨g', mk, t, L, E, ce, e1, e2, hq, hce, hcv, hcl, h1, hL, h2, h3⟩, st⟩
  · dsimp only [Pt.U, Pt.locs, Pt.cells, Pt.slots] at X' e1 e2 h1 h2 h3 st
    subst h1; subst h2; subst h3
    exact Or.inl ⟨v, (T.setVm vm₁).calling g' mk (Value.ref b :: As).toArray, t, U', L, hT, X', hL, e1, e2, hq, st⟩
  · dsimp only [Pt.U, Pt.locs, Pt.cells, Pt.slots] at X' e1 e2 h1 h2 h3 st hcl
    subst h1; subst h2; subst h3
    exact Or.inr ⟨q, (T.setVm vm₁).calling g' mk (Value.ref b :: As).toArray, t, U', L, E, ce, hT, X', hL, e1, e2, hq, hce, hcv, vx_cls hW₁ hcl, st⟩
theorem vx_runS (S : CallFix p m c cc nL s args Ts own) (hM : vx_Met l y ws rm Pc Qc XC mc ms free) (cw : CallB R s args own index y bytes maxL ret ws rm mc ms n ∧ (Cond.static y).before args s = true) (hp : PreS s H Pc As)
    (hg : g.method = m) (hn : As.length = n) (hsize : g.locals.size = nL) (hstack : g.stack = As.reverse ++ rest) (hW : 2 * g.monitorRoom + (rest.map fun v => v.category).sum ≤ 8) (hdg : decode cc g.pc = .ok (.invokestatic index, 3)) (hf : cells + mc ≤ R.cells ∧ slots + ms ≤ R.slots) :
    vx_Run p l e R s m args below meth c H locs cells slots mc ms g rest (Qc As.toArray) XC free := by
  have hK : vx_Back l R p e below s args y 3 8 (PreOf R mc ms Pc) (PostOf Qc mc ms free) (vx_Post XC mc ms free) := vx_callBack cw.1 hM hp.1
  obtain ⟨⟨-, -, -, -, -, -, hcode, hini, hy, hlen, hl⟩, hstt⟩ := cw
  obtain ⟨hx, hb, hml, ho, -⟩ := S
  intro T hT X
  rcases vx_callS X hx (bytes := bytes) (maxL := maxL) (ret := ret) ho hl hstt hini hcode hy hK hg (hsize.trans hml.symm) (argsL := As) (rest := rest) (fun sig h => hn.trans (hlen sig h)) hstack hW (by rw [hb]; exact hdg)
    (fun vm₁ hW₁ => ⟨hf.1, hf.2, hp.2 (T.setVm vm₁) hT hW₁⟩) with ⟨v, vm₁, ⟨U', l2, c2, s2⟩, hW₁, X', ⟨g', mk, t, L, e1, e2, hq, h1, hL, h2, h3⟩, st⟩ | ⟨q, vm₁, ⟨U', l2, c2, s2⟩, hW₁, X', ⟨g', mk, t, L, E, ce, e1, e2, hq, hce, hcv, hcl, h1, hL, h2, h3⟩, st⟩
  · dsimp only [Pt.U, Pt.locs, Pt.cells, Pt.slots] at X' e1 e2 h1 h2 h3 st
    subst h1; subst h2; subst h3
    exact Or.inl ⟨v, (T.setVm vm₁).calling g' mk As.toArray, t, U', L, hT, X', hL, e1, e2, hq, st⟩
  · dsimp only [Pt.U, Pt.locs, Pt.cells, Pt.slots] at X' e1 e2 h1 h2 h3 st hcl
    subst h1; subst h2; subst h3
    exact Or.inr ⟨q, (T.setVm vm₁).calling g' mk As.toArray, t, U', L, E, ce, hT, X', hL, e1, e2, hq, hce, hcv, vx_cls hW₁ hcl, st⟩
end Runs
section Rows
variable {p : Program} {l : Launch} {e : Env} {R : Room} {s : State} {m : MethodId} {args : Array Value} {below : List Frame} {meth : Method} {c : Code} {H : Heap} {locs : List Loc} {cells slots : Nat} {Q : State → Prop}
variable {mc ms : Nat} {free : Addr → Prop} {A0 A1 : Nat → Prop} {H0 : Heap} {a : Array Value} {pc : Nat} {ls : Array Slot} {st0 rest : List Value}
theorem vx_keep {st₀ t T' : State} {L : List Loc} (h0 : st₀.heap = H) (e1 : T'.heap = t.heap) (hS : va_S A0 H0 H locs) (hA : ∀ q, q < H.size → A1 q → A0 q) (hf : ∀ q, free q → A0 q) (hL : ∀ q ∈ L, free q.base) (hF : va_F A1 st₀ t) :
    H.size ≤ T'.heap.size ∧ (∀ q : Nat, q < H.size → ¬ A1 q → T'.heap[q]? = H[q]?) ∧ va_S A0 H0 T'.heap (locs ++ L) := by
  obtain ⟨hz, hk⟩ := hF
  rw [h0] at hz hk
  exact ⟨by rw [e1]; exact hz, fun q h1 h2 => by rw [e1]; exact hk q h1 h2,
    ⟨Nat.le_trans hS.1 (by rw [e1]; exact hz), fun q h1 h2 => by rw [e1, hk q (Nat.lt_of_lt_of_le h1 hS.1) (fun z => h2 (hA q (Nat.lt_of_lt_of_le h1 hS.1) z))]; exact hS.2.1 q h1 h2, fun q hq => by
      rcases List.mem_append.mp hq with h | h
      · exact hS.2.2 q h
      · exact hf _ (hL q h)⟩⟩
theorem vx_calli {S SX : Type} {post : Int32 → S → Prop} {px : SX → Prop} {B : S → State → Prop} {BX : String → SX → State → Prop} {AX : Nat → Prop} (hr : vx_Run p l e R s m args below meth c H locs cells slots mc ms (F0 m pc ls st0) rest (va_Qi post B A1 a) (vx_X px BX AX) free) (hS : va_S A0 H0 H locs) (hA : ∀ q, q < H.size → A1 q → A0 q) (hf : ∀ q, free q → A0 q) (hAX : ∀ q, q < H.size → AX q → A0 q)
    (kx : ∀ (E : String) (ce : Cell) (q9 : Addr) (u : SX) (t : State) (H1 : Heap) (locs1 : List Loc), t.heap = H1 → s.vm.Alike t.vm → px u → BX E u t → H.size ≤ H1.size → (∀ q : Nat, q < H.size → ¬ AX q → H1[q]? = H[q]?) → va_S A0 H0 H1 locs1 → H1[q9]? = some ce → ce.vm = .none → s.vm.findClass E = some ce.cls → vx_W p l e R s m args below meth c H1 locs1 (cells + mc) (slots + ms) Q (F0 m pc ls rest) q9)
    (kk : ∀ (r : Int32) (u : S) (t : State) (H1 : Heap) (locs1 : List Loc), t.heap = H1 → s.vm.Alike t.vm → post r u → B u t → H.size ≤ H1.size → (∀ q : Nat, q < H.size → ¬ A1 q → H1[q]? = H[q]?) → va_S A0 H0 H1 locs1 → W p l e R s m args below meth c H1 locs1 (cells + mc) (slots + ms) Q (F0 m (pc + 3) ls (.int r :: rest))) : W p l e R s m args below meth c H locs cells slots Q (F0 m pc ls st0) := by
  intro T hT X
  rcases hr T hT X with ⟨v, st₀, t, T', L, h0, X', hL, e1, e2, ⟨⟨r, u, hv, hp, hb⟩, hF⟩, st⟩ | ⟨q, st₀, t, T', L, E, ce, h0, X', hL, e1, e2, ⟨u, hp, hb, hF⟩, hce, hcv, hcl, st⟩
  · cases hv
    obtain ⟨k1, k2, k3⟩ := vx_keep h0 e1 hS hA hf hL hF
    obtain ⟨t2, a1, b1⟩ := kk r u t T'.heap (locs ++ L) e1.symm (by rw [← e2]; exact X'.warmed.alike) hp hb k1 k2 k3 T' rfl X'
    exact ⟨t2, st t2 a1, b1⟩
  · obtain ⟨k1, k2, k3⟩ := vx_keep h0 e1 hS hAX hf hL hF
    obtain ⟨t2, a1, b1⟩ := kx E ce q u t T'.heap (locs ++ L) e1.symm (by rw [← e2]; exact X'.warmed.alike) hp hb k1 k2 k3 (by rw [e1]; exact hce) hcv hcl T' rfl X'
    exact ⟨t2, st.trans a1, b1⟩
theorem vx_calll {S SX : Type} {post : Int64 → S → Prop} {px : SX → Prop} {B : S → State → Prop} {BX : String → SX → State → Prop} {AX : Nat → Prop} (hr : vx_Run p l e R s m args below meth c H locs cells slots mc ms (F0 m pc ls st0) rest (va_Ql post B A1 a) (vx_X px BX AX) free) (hS : va_S A0 H0 H locs) (hA : ∀ q, q < H.size → A1 q → A0 q) (hf : ∀ q, free q → A0 q) (hAX : ∀ q, q < H.size → AX q → A0 q)
    (kx : ∀ (E : String) (ce : Cell) (q9 : Addr) (u : SX) (t : State) (H1 : Heap) (locs1 : List Loc), t.heap = H1 → s.vm.Alike t.vm → px u → BX E u t → H.size ≤ H1.size → (∀ q : Nat, q < H.size → ¬ AX q → H1[q]? = H[q]?) → va_S A0 H0 H1 locs1 → H1[q9]? = some ce → ce.vm = .none → s.vm.findClass E = some ce.cls → vx_W p l e R s m args below meth c H1 locs1 (cells + mc) (slots + ms) Q (F0 m pc ls rest) q9)
    (kk : ∀ (r : Int64) (u : S) (t : State) (H1 : Heap) (locs1 : List Loc), t.heap = H1 → s.vm.Alike t.vm → post r u → B u t → H.size ≤ H1.size → (∀ q : Nat, q < H.size → ¬ A1 q → H1[q]? = H[q]?) → va_S A0 H0 H1 locs1 → W p l e R s m args below meth c H1 locs1 (cells + mc) (slots + ms) Q (F0 m (pc + 3) ls (.long r :: rest))) : W p l e R s m args below meth c H locs cells slots Q (F0 m pc ls st0) := by
  intro T hT X
  rcases hr T hT X with ⟨v, st₀, t, T', L, h0, X', hL, e1, e2, ⟨⟨r, u, hv, hp, hb⟩, hF⟩, st⟩ | ⟨q, st₀, t, T', L, E, ce, h0, X', hL, e1, e2, ⟨u, hp, hb, hF⟩, hce, hcv, hcl, st⟩
  · cases hv
    obtain ⟨k1, k2, k3⟩ := vx_keep h0 e1 hS hA hf hL hF
    obtain ⟨t2, a1, b1⟩ := kk r u t T'.heap (locs ++ L) e1.symm (by rw [← e2]; exact X'.warmed.alike) hp hb k1 k2 k3 T' rfl X'
    exact ⟨t2, st t2 a1, b1⟩
  · obtain ⟨k1, k2, k3⟩ := vx_keep h0 e1 hS hAX hf hL hF
    obtain ⟨t2, a1, b1⟩ := kx E ce q u t T'.heap (locs ++ L) e1.symm (by rw [← e2]; exact X'.warmed.alike) hp hb k1 k2 k3 (by rw [e1]; exact hce) hcv hcl T' rfl X'
    exact ⟨t2, st.trans a1, b1⟩
theorem vx_callf {S SX : Type} {post : UInt32 → S → Prop} {px : SX → Prop} {B : S → State → Prop} {BX : String → SX → State → Prop} {AX : Nat → Prop} (hr : vx_Run p l e R s m args below meth c H locs cells slots mc ms (F0 m pc ls st0) rest (va_Qf post B A1 a) (vx_X px BX AX) free) (hS : va_S A0 H0 H locs) (hA : ∀ q, q < H.size → A1 q → A0 q) (hf : ∀ q, free q → A0 q) (hAX : ∀ q, q < H.size → AX q → A0 q)
    (kx : ∀ (E : String) (ce : Cell) (q9 : Addr) (u : SX) (t : State) (H1 : Heap) (locs1 : List Loc), t.heap = H1 → s.vm.Alike t.vm → px u → BX E u t → H.size ≤ H1.size → (∀ q : Nat, q < H.size → ¬ AX q → H1[q]? = H[q]?) → va_S A0 H0 H1 locs1 → H1[q9]? = some ce → ce.vm = .none → s.vm.findClass E = some ce.cls → vx_W p l e R s m args below meth c H1 locs1 (cells + mc) (slots + ms) Q (F0 m pc ls rest) q9)
    (kk : ∀ (r : UInt32) (u : S) (t : State) (H1 : Heap) (locs1 : List Loc), t.heap = H1 → s.vm.Alike t.vm → post r u → B u t → H.size ≤ H1.size → (∀ q : Nat, q < H.size → ¬ A1 q → H1[q]? = H[q]?) → va_S A0 H0 H1 locs1 → W p l e R s m args below meth c H1 locs1 (cells + mc) (slots + ms) Q (F0 m (pc + 3) ls (.float r :: rest))) : W p l e R s m args below meth c H locs cells slots Q (F0 m pc ls st0) := by
  intro T hT X
  rcases hr T hT X with ⟨v, st₀, t, T', L, h0, X', hL, e1, e2, ⟨⟨r, u, hv, hp, hb⟩, hF⟩, st⟩ | ⟨q, st₀, t, T', L, E, ce, h0, X', hL, e1, e2, ⟨u, hp, hb, hF⟩, hce, hcv, hcl, st⟩
  · cases hv
    obtain ⟨k1, k2, k3⟩ := vx_keep h0 e1 hS hA hf hL hF
    obtain ⟨t2, a1, b1⟩ := kk r u t T'.heap (locs ++ L) e1.symm (by rw [← e2]; exact X'.warmed.alike) hp hb k1 k2 k3 T' rfl X'
    exact ⟨t2, st t2 a1, b1⟩
  · obtain ⟨k1, k2, k3⟩ := vx_keep h0 e1 hS hAX hf hL hF
    obtain ⟨t2, a1, b1⟩ := kx E ce q u t T'.heap (locs ++ L) e1.symm (by rw [← e2]; exact X'.warmed.alike) hp hb k1 k2 k3 (by rw [e1]; exact hce) hcv hcl T' rfl X'
    exact ⟨t2, st.trans a1, b1⟩
theorem vx_calld {S SX : Type} {post : UInt64 → S → Prop} {px : SX → Prop} {B : S → State → Prop} {BX : String → SX → State → Prop} {AX : Nat → Prop} (hr : vx_Run p l e R s m args below meth c H locs cells slots mc ms (F0 m pc ls st0) rest (va_Qd post B A1 a) (vx_X px BX AX) free) (hS : va_S A0 H0 H locs) (hA : ∀ q, q < H.size → A1 q → A0 q) (hf : ∀ q, free q → A0 q) (hAX : ∀ q, q < H.size → AX q → A0 q)
    (kx : ∀ (E : String) (ce : Cell) (q9 : Addr) (u : SX) (t : State) (H1 : Heap) (locs1 : List Loc), t.heap = H1 → s.vm.Alike t.vm → px u → BX E u t → H.size ≤ H1.size → (∀ q : Nat, q < H.size → ¬ AX q → H1[q]? = H[q]?) → va_S A0 H0 H1 locs1 → H1[q9]? = some ce → ce.vm = .none → s.vm.findClass E = some ce.cls → vx_W p l e R s m args below meth c H1 locs1 (cells + mc) (slots + ms) Q (F0 m pc ls rest) q9)
    (kk : ∀ (r : UInt64) (u : S) (t : State) (H1 : Heap) (locs1 : List Loc), t.heap = H1 → s.vm.Alike t.vm → post r u → B u t → H.size ≤ H1.size → (∀ q : Nat, q < H.size → ¬ A1 q → H1[q]? = H[q]?) → va_S A0 H0 H1 locs1 → W p l e R s m args below meth c H1 locs1 (cells + mc) (slots + ms) Q (F0 m (pc + 3) ls (.double r :: rest))) : W p l e R s m args below meth c H locs cells slots Q (F0 m pc ls st0) := by
  intro T hT X
  rcases hr T hT X with ⟨v, st₀, t, T', L, h0, X', hL, e1, e2, ⟨⟨r, u, hv, hp, hb⟩, hF⟩, st⟩ | ⟨q, st₀, t, T', L, E, ce, h0, X', hL, e1, e2, ⟨u, hp, hb, hF⟩, hce, hcv, hcl, st⟩
  · cases hv
    obtain ⟨k1, k2, k3⟩ := vx_keep h0 e1 hS hA hf hL hF
    obtain ⟨t2, a1, b1⟩ := kk r u t T'.heap (locs ++ L) e1.symm (by rw [← e2]; exact X'.warmed.alike) hp hb k1 k2 k3 T' rfl X'
    exact ⟨t2, st t2 a1, b1⟩
  · obtain ⟨k1, k2, k3⟩ := vx_keep h0 e1 hS hAX hf hL hF
    obtain ⟨t2, a1, b1⟩ := kx E ce q u t T'.heap (locs ++ L) e1.symm (by rw [← e2]; exact X'.warmed.alike) hp hb k1 k2 k3 (by rw [e1]; exact hce) hcv hcl T' rfl X'
    exact ⟨t2, st.trans a1, b1⟩
theorem vx_callv {S SX : Type} {post : S → Prop} {px : SX → Prop} {B : S → State → Prop} {BX : String → SX → State → Prop} {AX : Nat → Prop} (hr : vx_Run p l e R s m args below meth c H locs cells slots mc ms (F0 m pc ls st0) rest (va_Qv post B A1 a) (vx_X px BX AX) free) (hS : va_S A0 H0 H locs) (hA : ∀ q, q < H.size → A1 q → A0 q) (hf : ∀ q, free q → A0 q) (hAX : ∀ q, q < H.size → AX q → A0 q)
    (kx : ∀ (E : String) (ce : Cell) (q9 : Addr) (u : SX) (t : State) (H1 : Heap) (locs1 : List Loc), t.heap = H1 → s.vm.Alike t.vm → px u → BX E u t → H.size ≤ H1.size → (∀ q : Nat, q < H.size → ¬ AX q → H1[q]? = H[q]?) → va_S A0 H0 H1 locs1 → H1[q9]? = some ce → ce.vm = .none → s.vm.findClass E = some ce.cls → vx_W p l e R s m args below meth c H1 locs1 (cells + mc) (slots + ms) Q (F0 m pc ls rest) q9)
    (kk : ∀ (u : S) (t : State) (H1 : Heap) (locs1 : List Loc), t.heap = H1 → s.vm.Alike t.vm → post u → B u t → H.size ≤ H1.size → (∀ q : Nat, q < H.size → ¬ A1 q → H1[q]? = H[q]?) → va_S A0 H0 H1 locs1 → W p l e R s m args below meth c H1 locs1 (cells + mc) (slots + ms) Q (F0 m (pc + 3) ls (rest))) : W p l e R s m args below meth c H locs cells slots Q (F0 m pc ls st0) := by
  intro T hT X
  rcases hr T hT X with ⟨v, st₀, t, T', L, h0, X', hL, e1, e2, ⟨⟨u, hv, hp, hb⟩, hF⟩, st⟩ | ⟨q, st₀, t, T', L, E, ce, h0, X', hL, e1, e2, ⟨u, hp, hb, hF⟩, hce, hcv, hcl, st⟩
  · cases hv
    obtain ⟨k1, k2, k3⟩ := vx_keep h0 e1 hS hA hf hL hF
    obtain ⟨t2, a1, b1⟩ := kk u t T'.heap (locs ++ L) e1.symm (by rw [← e2]; exact X'.warmed.alike) hp hb k1 k2 k3 T' rfl X'
    exact ⟨t2, st t2 a1, b1⟩
  · obtain ⟨k1, k2, k3⟩ := vx_keep h0 e1 hS hAX hf hL hF
    obtain ⟨t2, a1, b1⟩ := kx E ce q u t T'.heap (locs ++ L) e1.symm (by rw [← e2]; exact X'.warmed.alike) hp hb k1 k2 k3 (by rw [e1]; exact hce) hcv hcl T' rfl X'
    exact ⟨t2, st.trans a1, b1⟩
/-- caught by the row x of this method's table; the rows ahead don't take it -/
theorem vx_catch {own name : String} {E : String} {ce : Cell} {q : Addr} (hown : s.vm.findClass own = some m.cls) (pre : List ExceptionTableEntry) (x : ExceptionTableEntry) (suf : List ExceptionTableEntry) (hsplit : c.exceptionTable.toList = pre ++ x :: suf)
    (hpass : ∀ z ∈ pre, covers z pc = false ∨ (z.catchType ≠ 0 ∧ ∃ nm : String, (Cond.classLink own z.catchType nm).before args s = true ∧ va_Nc E nm s)) (hx : covers x pc = true) (h0 : x.catchType ≠ 0)
    (hlink : (Cond.classLink own x.catchType name).before args s = true) (hcast : (Cond.castable E name).before args s = true) (hcell : H[q]? = some ce) (hv : ce.vm = .none) (hcl : s.vm.findClass E = some ce.cls)
    (kk : W p l e R s m args below meth c H locs cells slots Q (F0 m x.handlerPc ls [.ref q])) : vx_W p l e R s m args below meth c H locs cells slots Q (F0 m pc ls rest) q := by
  intro T hT X
  have hpl : e.platform.magicAccessors = ({} : Platform).magicAccessors := by rw [X.admits.platform]
  obtain ⟨c3, c4, hc3, hc4, hasg⟩ := Cond.castable_spec hcast
  cases Option.some.inj (hc3.symm.trans hcl)
  obtain ⟨c5, hc5, hcl5⟩ := Cond.classLink_spec hown hlink e.platform hpl
  cases Option.some.inj (hc4.symm.trans hc5)
  obtain ⟨vm', X', st⟩ := X.thenCaughtThrough q (g := F0 m pc ls rest) rfl (Steps.refl _) (by rw [hT]; exact hcell) (by rw [hv]; rfl) (by obtain ⟨k9, h9, -⟩ := Vm.findClass_spec hcl; exact ⟨k9, h9⟩) pre x suf hsplit
    (fun z hz => by
      rcases hpass z hz with h | ⟨hz0, nm, hl1, hn1⟩
      · exact Or.inl h
      · obtain ⟨c6, hc6, hcl6⟩ := Cond.classLink_spec hown hl1 e.platform hpl
        obtain ⟨a8, b8, h1, h2, h3⟩ := hn1
        cases Option.some.inj (h1.symm.trans hcl)
        cases Option.some.inj (h2.symm.trans hc6)
        exact Or.inr ⟨hz0, _, hcl6, h3⟩) hx (Or.inr ⟨h0, c4, hcl5, hasg⟩)
  obtain ⟨t, a1, b1⟩ := kk (T.setVm vm') hT X'
  exact ⟨t, st.trans a1, b1⟩
end Rows
section Ends
variable {p : Program} {l : Launch} {e : Env} {R : Room} {s : State} {m : MethodId} {args : Array Value} {below : List Frame} {meth : Method} {c : Code} {H : Heap} {locs : List Loc} {cells slots : Nat} {Q : State → Prop}
variable {mc ms : Nat} {free : Addr → Prop} {A0 A1 : Nat → Prop} {H0 : Heap} {a : Array Value} {ls : Array Slot} {st0 rest : List Value}
variable {Qc : Array Value → State → Outcome → State → Prop} {XC : String → State → State → Prop}
/-- what a body that may throw owes at its end -/
def vx_MQ (below : List Frame) (Qc : Array Value → State → Outcome → State → Prop) (XC : String → State → State → Prop) (a : Array Value) (s : State) (mc ms : Nat) (free : Addr → Prop) : State → Prop := fun t =>
  ∃ o, t.status = .running ∧ Ended t below o ∧ vx_Q Qc XC mc ms free a s o t
theorem vx_ret {g : JFrame} {mc ms : Nat} (k : W p l e R s m args below meth c H locs cells slots (MQ below Qc args s mc ms free) g) : W p l e R s m args below meth c H locs cells slots (vx_MQ below Qc XC args s mc ms free) g := by
  intro T hT X
  obtain ⟨t, a1, o, b1, b2, b3, b4⟩ := k T hT X
  exact ⟨t, a1, o, b1, b2, Or.inl ⟨b3, b4⟩⟩
/-- not caught here: it goes on to the caller -/
theorem vx_widen {g : JFrame} {q : Addr} {k n : Nat} (h1 : cells ≤ k) (h2 : slots ≤ n) (kk : vx_W p l e R s m args below meth c H locs k n Q g q) : vx_W p l e R s m args below meth c H locs cells slots Q g q := fun T hT X => kk T hT (stand_widen X h1 h2)
theorem vx_out {pc : Nat} {E : String} {ce : Cell} {q : Addr} {mc ms : Nat} (hout : ∀ x ∈ c.exceptionTable.toList, covers x pc = false) (hlocks : meth.locks = false) (hcell : H[q]? = some ce) (hv : ce.vm = .none) (hcl : s.vm.findClass E = some ce.cls)
    (hx : ∀ t : State, t.heap = H → s.vm.Alike t.vm → XC E s t) (hf : ∀ z ∈ locs, free z.base) (hc : cells ≤ mc) (hs : slots ≤ ms) :
    vx_W p l e R s m args below meth c H locs cells slots (vx_MQ below Qc XC args s mc ms free) (F0 m pc ls rest) q := by
  intro T hT X
  obtain ⟨st1, hrun, hend, hW, hsm⟩ := X.leaveThrown q (g := F0 m pc ls rest) rfl rfl rfl hout hlocks
  have hcell9 : (T.setFrames (.throwing q :: below)).heap[q]? = some ce := by
    show T.heap[q]? = some ce
    rw [hT]; exact hcell
  exact ⟨_, st1, .threw q, hrun, hend, Or.inr ⟨q, rfl, E, ce, locs, hx _ hT hW.alike, hcell9, hv, hcl, hW, hsm.mono hc hs, hf⟩⟩
theorem vx_frame {U : State} {k n : Nat} (h : s.sameButNew ({ U with vm := s.vm } : State) locs k n) : s.heap.size ≤ U.heap.size ∧ ∀ q : Nat, q < s.heap.size → (∀ z ∈ locs, z.base ≠ q) → U.heap[q]? = s.heap[q]? := by
  obtain ⟨-, h2, -, -, -, h6⟩ := h
  refine ⟨h2, fun q hq hz => ?_⟩
  obtain ⟨c9, e1, e2, e3, e4⟩ := h6 q _ (Array.getElem?_eq_getElem hq)
  have hs : c9.slots = (s.heap[q]).slots := Array.ext_getElem? fun i => e4 i fun hm => hz _ hm rfl
  have h9 : c9 = s.heap[q] := by
    rw [hs] at e2
    exact e2
  have e5 : U.heap[q]? = some c9 := e1
  rw [e5, h9, Array.getElem?_eq_getElem hq]
/-- the words of a throw but the four that speak of the heap -/
def vx_no (w : Cond) : Bool := decide (w ≠ .isRef (.static Bundle.tN "UNASSIGNED_STACK" Bundle.steD)) && decide (w ≠ .isRef (.static Bundle.tN "SUPPRESSED_SENTINEL" Bundle.listD)) && decide (w ≠ .laysStatic Bundle.tN "UNASSIGNED_STACK" Bundle.steD) && decide (w ≠ .laysStatic Bundle.tN "SUPPRESSED_SENTINEL" Bundle.listD)
def vx_at0 (own : String) (ic : Nat) (X : String) (names : List String) : List Cond := (Bundle.ownAtoms0 own ic X names).filter vx_no
def vx_atS (own : String) (ic : Nat) (X : String) (names : List String) : List Cond := (Bundle.ownAtoms own ic X names).filter vx_no
/-- a word that the tables alone decide, or a good one -/
def vx_ot (w : Cond) : Bool := w.onTables || goodWord w
theorem vx_ot_at {args a' : Array Value} {s U : State} {w : Cond} (hW : s.WarmedH U.vm) (hvm : s.vm = U.vm) (hg : vx_ot w = true) (h : w.before args s = true) : w.before a' U = true := by
  simp only [vx_ot, Bool.or_eq_true] at hg
  rcases hg with hg | hg
  · exact va_tabs hg hvm h
  · exact word_at hW (good_of_word hg) h
/-- a list's words: the good ones out of the method's own list, the others by premises of their own -/
theorem vx_hat {args : Array Value} {s : State} {L B : List Cond} (h1 : ∀ w ∈ L.filter goodWord, w.before args s = true) (h2 : ∀ w ∈ L.filter (fun w => !goodWord w), w ∈ B) (h3 : ∀ w ∈ B, w.before args s = true) : ∀ w ∈ L, w.before args s = true := by
  intro w hw
  by_cases g : goodWord w = true
  · exact h1 w (List.mem_filter.mpr ⟨hw, g⟩)
  · refine h3 w (h2 w (List.mem_filter.mpr ⟨hw, ?_⟩))
    show (!goodWord w) = true
    cases hgw : goodWord w
    · rfl
    · exact absurd hgw g
theorem vx_c {args : Array Value} {s : State} {w : Cond} {B : List Cond} (h : w.before args s = true) (t : ∀ w ∈ B, w.before args s = true) : ∀ w' ∈ w :: B, w'.before args s = true := fun w' h' => (List.mem_cons.mp h').elim (fun e => by rw [e]; exact h) (t w')
theorem vx_n {args : Array Value} {s : State} : ∀ w ∈ ([] : List Cond), w.before args s = true := fun _ h => nomatch h
theorem vx_own {args : Array Value} {s : State} {L : List Cond} (h1 : ∀ w ∈ L.filter vx_no, w.before args s = true)
    (hU : (Cond.isRef (.static Bundle.tN "UNASSIGNED_STACK" Bundle.steD)).before args s = true) (hN : (Cond.isRef (.static Bundle.tN "SUPPRESSED_SENTINEL" Bundle.listD)).before args s = true)
    (lU : (Cond.laysStatic Bundle.tN "UNASSIGNED_STACK" Bundle.steD).before args s = true) (lN : (Cond.laysStatic Bundle.tN "SUPPRESSED_SENTINEL" Bundle.listD).before args s = true) : ∀ w ∈ L, w.before args s = true := by
  intro w hw
  by_cases e1 : w = .isRef (.static Bundle.tN "UNASSIGNED_STACK" Bundle.steD)
  · rw [e1]; exact hU
  · by_cases e2 : w = .isRef (.static Bundle.tN "SUPPRESSED_SENTINEL" Bundle.listD)
    · rw [e2]; exact hN
    · by_cases e3 : w = .laysStatic Bundle.tN "UNASSIGNED_STACK" Bundle.steD
      · rw [e3]; exact lU
      · by_cases e4 : w = .laysStatic Bundle.tN "SUPPRESSED_SENTINEL" Bundle.listD
        · rw [e4]; exact lN
        · exact h1 w (List.mem_filter.mpr ⟨hw, by unfold vx_no; rw [decide_eq_true e1, decide_eq_true e2, decide_eq_true e3, decide_eq_true e4]; rfl⟩)
/-- where a static field lies, its class's statics cell in H -/
def vx_L (C n d : String) (A : Nat → Prop) (U : State) (H : Heap) : Prop := ∃ (c : ClassId) (k : Class) (i : Nat) (f : Field) (a : Nat) (cell : Cell), U.vm.findClass C = some c ∧ U.fieldFound? C n d = some (c, k, i, f) ∧ f.isStatic = true ∧ k.statics = some a ∧ H[a]? = some cell ∧ cell.vm.isStatics = true ∧ cell.cls = c ∧ f.slot < cell.slots.size ∧ k.staticTypes[f.slot]? = some f.type ∧ ¬ A a
theorem vx_L.moved {C n d : String} {A : Nat → Prop} {u U : State} {H : Heap} (hvm : u.vm.Alike U.vm) (h : vx_L C n d A u H) : vx_L C n d A U H := by
  obtain ⟨c, k, i, f, a, cell, h1, h2, h3, h4, h5, h6, h7, h8, h9, h10⟩ := h
  obtain ⟨k', hi', he⟩ := State.fieldFound?_setVm hvm h2
  exact ⟨c, k', i, f, a, cell, by rw [hvm.findClass]; exact h1, hi', h3, by rw [he]; exact h4, h5, h6, h7, h8, by rw [he]; exact h9, h10⟩
theorem vx_L.kept {C n d : String} {A : Nat → Prop} {U : State} {H H1 : Heap} (h : vx_L C n d A U H) (hq : ∀ a : Nat, a < H.size → ¬ A a → H1[a]? = H[a]?) : vx_L C n d A U H1 := by
  obtain ⟨c, k, i, f, a, cell, h1, h2, h3, h4, h5, h6, h7, h8, h9, h10⟩ := h
  exact ⟨c, k, i, f, a, cell, h1, h2, h3, h4, by rw [hq a (Array.getElem?_eq_some_iff.mp h5).1 h10]; exact h5, h6, h7, h8, h9, h10⟩
theorem vx_L.narrow {C n d : String} {A B : Nat → Prop} {U : State} {H : Heap} (h : vx_L C n d A U H) (hAB : ∀ q, B q → A q) : vx_L C n d B U H := by
  obtain ⟨c, k, i, f, a, cell, h1, h2, h3, h4, h5, h6, h7, h8, h9, h10⟩ := h
  exact ⟨c, k, i, f, a, cell, h1, h2, h3, h4, h5, h6, h7, h8, h9, fun z => h10 (hAB _ z)⟩
theorem vx_L.word {C n d : String} {A : Nat → Prop} {s : State} {args : Array Value} (h : vx_L C n d A s s.heap) : (Cond.laysStatic C n d).before args s = true := by
  obtain ⟨c, k, i, f, a, cell, h1, h2, h3, h4, h5, h6, h7, h8, h9, -⟩ := h
  show (Cond.laysStatic C n d).holds args s none s [] = true
  exact Cond.laysStatic_of h1 h2 h3 h4 h5 h6 h7 h8 h9
/-- .. and what it holds: null or some reference -/
def vx_Zq (C n d : String) (A : Nat → Prop) (U : State) (H : Heap) : Prop := va_Zq C n d A U H ∧ vx_L C n d A U H
theorem vx_Zq.moved {C n d : String} {A : Nat → Prop} {u U : State} {H : Heap} (hvm : u.vm.Alike U.vm) (h : vx_Zq C n d A u H) : vx_Zq C n d A U H := ⟨va_Zq.moved hvm h.1, vx_L.moved hvm h.2⟩
theorem vx_Zq.kept {C n d : String} {A : Nat → Prop} {U : State} {H H1 : Heap} (h : vx_Zq C n d A U H) (hq : ∀ a : Nat, a < H.size → ¬ A a → H1[a]? = H[a]?) : vx_Zq C n d A U H1 := ⟨va_Zq.kept h.1 hq, vx_L.kept h.2 hq⟩
theorem vx_Zq.narrow {C n d : String} {A B : Nat → Prop} {U : State} {H : Heap} (h : vx_Zq C n d A U H) (hAB : ∀ q, B q → A q) : vx_Zq C n d B U H := ⟨va_Zq.narrow h.1 hAB, vx_L.narrow h.2 hAB⟩
theorem vx_Zqof {args : Array Value} {s : State} {C n d : String} {A : Nat → Prop} (hl : (Cond.laysStatic C n d).before args s = true) (hini : (Cond.initialized C).before args s = true) (h : (Cond.isRef (.static C n d)).before args s = true) (hA : ∀ a : Nat, a < s.heap.size → ¬ A a) : vx_Zq C n d A s s.heap := by
  refine ⟨va_Zqof hl hini h hA, ?_⟩
  obtain ⟨c, k, i, f, a, cell, h1, h2, h3, h4, h5, h6, h7, h8, h9⟩ := Cond.laysStatic_spec hl
  exact ⟨c, k, i, f, a, cell, h1, h2, h3, h4, h5, h6, h7, h8, h9, hA a (Array.getElem?_eq_some_iff.mp h5).1⟩
theorem vx_isRef {C n d : String} {v : Value} {A : Nat → Prop} {s : State} {args : Array Value} (h : va_Z C n d v A s s.heap) (hv : v.isRef = true) : (Cond.isRef (.static C n d)).before args s = true := by
  obtain ⟨cf, kf, fi, f, a, cell, h1, h2, h3, h4, h5, h6, h7, -⟩ := h
  have he : (Term.static C n d).eval args s none [] s = some v := by
    simp [Term.eval, State.fieldNamed?, h1, h2, h4, h5, h6, h7]
  simp only [Cond.before, Cond.holds, Cond.value, he]
  cases v <;> simp_all [Value.isRef]
theorem vx_isRefq {C n d : String} {A : Nat → Prop} {s : State} {args : Array Value} (h : va_Zq C n d A s s.heap) : (Cond.isRef (.static C n d)).before args s = true := by
  rcases h with h | ⟨t, h⟩
  · exact vx_isRef h rfl
  · exact vx_isRef h rfl
/-- the same frame, seen from here: as if the method were called anew in this heap -/
theorem vx_rebase {T : State} (X : Stand p l e R s m args below meth c T locs cells slots) {R' : Room} (hf : R'.frames ≤ R.frames) (hl : R'.locals ≤ R.locals) (hc : cells + R'.cells ≤ R.cells) (hs : slots + R'.slots ≤ R.slots) :
    Stand p l e R' ((T.setVm s.vm).setFrames (.invoking m args :: below)) m args below meth c T [] 0 0 := by
  have htop : (T.setVm s.vm).topJava?.isSome := X.here.top
  have hF : ((T.setVm s.vm).setFrames (.invoking m args :: below)).frames = .invoking m args :: below := State.frames_setFrames _ (State.cur_lt_of_top htop)
  obtain ⟨g₀, hg0⟩ := Option.isSome_iff_exists.mp htop
  obtain ⟨r, hr⟩ := State.topJava?_eq_some.mp hg0
  have hl9 : e.platform.stackLimits (T.setVm s.vm).me = e.platform.stackLimits s.me := X.limits
  have hb9 : (T.setVm s.vm).me.stackBytes = s.me.stackBytes := X.bytes
  refine ⟨X.admits, X.cas, X.clock, hF, ?_, X.hears, X.method, X.code, X.here, X.tail, X.warmed, ?_, ?_, ?_⟩
  · have h := X.room
    have hU : ((T.setVm s.vm).setFrames (.invoking m args :: below)).localsInUse = s.localsInUse := by
      rw [State.localsInUse_invoking hF (meth := meth) (c := c) X.method X.code, State.localsInUse_invoking X.frames X.method X.code]
    simp only [State.hasRoom, Bool.and_eq_true, decide_eq_true_eq] at h ⊢
    obtain ⟨⟨⟨⟨h1, h2, h3, h4, h5, h6⟩, h7⟩, h8⟩, h9⟩ := h
    rw [X.frames, List.length_cons] at h2 h3
    have q1 := X.heapSize
    have q2 := X.used
    simp only [hF, hU, List.length_cons, State.stackLimits_setFrames, State.stackBytes_setFrames, hl9, hb9]
    refine ⟨⟨⟨⟨by omega, by omega, by omega, by omega, by omega, h6⟩, ?_⟩, ?_⟩, X.book⟩
    · show T.heap.size + R'.cells ≤ e.platform.maxCells
      omega
    · show T.slotsUsed + R'.slots ≤ e.platform.maxSlots
      omega
  · rw [State.stackLimits_setFrames]; rfl
  · rw [State.stackBytes_setFrames]; rfl
  · refine ⟨?_, Nat.le_refl _, Nat.le_refl _, ?_, ?_, fun a c9 h9 => ⟨c9, h9, rfl, rfl, fun _ _ => rfl⟩⟩
    · obtain ⟨t, ht, -⟩ := State.frames_cons hr
      show T.setVm s.vm = { ((T.setVm s.vm).setFrames (.invoking m args :: below)).setFrames (T.setVm s.vm).frames with heap := T.heap, slotsUsed := T.slotsUsed }
      rw [State.setFrames_setFrames, State.setFrames_self ht]
      rfl
    · show T.slotsUsed = T.slotsUsed + ((T.heap.toList.drop T.heap.size).map (·.slots.size)).sum
      rw [List.drop_eq_nil_of_le (Nat.le_of_eq Array.length_toList)]
      rfl
    · show ((T.heap.toList.drop T.heap.size).map (·.slots.size)).sum ≤ 0
      rw [List.drop_eq_nil_of_le (Nat.le_of_eq Array.length_toList)]
      exact Nat.le_refl _
/-- 'throw new E()': new; dup; invokespecial; athrow -/
theorem vx_throw0 {cc : ByteArray} {pc : Nat} (hexec : p.tables.exec = Jvm.exec) (hb : c.code = cc) (hl : l.stackTraces = false) {own cls : String} {names : List String} {ik ic mc ms : Nat} {A : Nat → Prop}
    (hown : s.vm.findClass own = some m.cls) (hcls : Bundle.fit cls = true) (hnames : ∀ n ∈ names, Bundle.fit n = true)
    (hk : (Cond.classLink own ik cls).before args s = true) (hini : (Cond.initialized cls).before args s = true) (hat : ∀ w ∈ vx_at0 own ic cls names, w.before args s = true)
    (hgood : ∀ w ∈ Cond.classLink own ik cls :: Cond.initialized cls :: vx_at0 own ic cls names, vx_ot w = true)
    (hU : vx_Zq Bundle.tN "UNASSIGNED_STACK" Bundle.steD A s s.heap) (hN : vx_Zq Bundle.tN "SUPPRESSED_SENTINEL" Bundle.listD A s s.heap) (hS : va_S A s.heap H locs) (hsize : ls.size = c.maxLocals)
    (d0 : decode cc pc = .ok (.new ik, 3)) (d3 : decode cc (pc + 3) = .ok (.dup, 1)) (d4 : decode cc (pc + 4) = .ok (.invokespecial ic, 3)) (d7 : decode cc (pc + 7) = .ok (.athrow, 1))
    (hout : ∀ x ∈ c.exceptionTable.toList, covers x (pc + 7) = false)
    (hRframes : names.length + 3 < R.frames) (hRlocals : (rest.map fun v => v.category).sum + (13 * (names.length + 1) + 42) ≤ R.locals) (hRcells : cells + 1 ≤ R.cells) (hRslots : slots + 6 ≤ R.slots) (hlocks : meth.locks = false)
    (hx : ∀ t : State, s.vm.Alike t.vm → H.size ≤ t.heap.size → (∀ q : Nat, q < H.size → t.heap[q]? = H[q]?) → XC cls s t)
    (hf : ∀ z ∈ locs, free z.base) (hc : cells + 1 ≤ mc) (hs : slots + 6 ≤ ms) :
    W p l e R s m args below meth c H locs cells slots (vx_MQ below Qc XC args s mc ms free) (F0 m pc ls rest) := by
  intro T hT X
  have htr : e.platform.stackTraces = false := (show e.platform.stackTraces = l.stackTraces by rw [X.admits.platform]).trans hl
  have Y := vx_rebase X (R' := { frames := R.frames, locals := R.locals, cells := 1, slots := 6 }) (Nat.le_refl _) (Nat.le_refl _) hRcells hRslots
  obtain ⟨s', hA⟩ : ∃ z, z = (T.setVm s.vm).setFrames (.invoking m args :: below) := ⟨_, rfl⟩
  rw [← hA] at Y
  have hvm : s'.vm = s.vm := by rw [hA]; rfl
  have hhp : s'.heap = H := by rw [hA]; exact hT
  have hW0 : s.WarmedH s'.vm := by rw [hvm]; exact State.WarmedH.refl s
  have hat' : ∀ w ∈ vx_at0 own ic cls names, w.before args s' = true := fun w hw => vx_ot_at hW0 hvm.symm (hgood w (List.mem_cons_of_mem _ (List.mem_cons_of_mem _ hw))) (hat w hw)
  have hk' : (Cond.classLink own ik cls).before args s' = true := vx_ot_at hW0 hvm.symm (hgood _ List.mem_cons_self) hk
  have hini' : (Cond.initialized cls).before args s' = true := vx_ot_at hW0 hvm.symm (hgood _ (List.mem_cons_of_mem _ List.mem_cons_self)) hini
  have hU' : vx_Zq Bundle.tN "UNASSIGNED_STACK" Bundle.steD A s' s'.heap := by rw [hhp]; exact vx_Zq.moved hW0.alike (hU.kept hS.2.1)
  have hN' : vx_Zq Bundle.tN "SUPPRESSED_SENTINEL" Bundle.listD A s' s'.heap := by rw [hhp]; exact vx_Zq.moved hW0.alike (hN.kept hS.2.1)
  have h : ∀ w ∈ Bundle.ownAtoms0 own ic cls names, w.before args s' = true := vx_own hat' (vx_isRefq hU'.1) (vx_isRefq hN'.1) hU'.2.word hN'.2.word
  have hown' : s'.vm.findClass own = some m.cls := by rw [hvm]; exact hown
  have hins : (Cond.instantiable cls 6).before args s' = true := h _ (by simp [Bundle.ownAtoms0])
  obtain ⟨vm₁, cX, kX, hfX, hkX, -, -, X₁, st1⟩ := Y.newCold hexec (own := own) (C := cls) (index := ik) (n := 6) hown' hk' hins hini'
    (g := F0 m pc ls rest) rfl (by rw [hb]; exact d0) (Nat.le_refl _) (Nat.le_refl _)
  generalize hT1 : (T.setVm vm₁).pushCell { cls := cX, slots := kX.instanceTypes.map defaultValue, vm := .none } = T1 at X₁ st1
  have hcat : (Value.ref T.heap.size).category = 1 := rfl
  have hcellA : T1.heap[T.heap.size]? = some (freshCell cX kX) := by rw [← hT1]; exact State.heap_pushCell_size _ _
  have d3' : decode c.code (pc + 3) = .ok (.dup, 1) := by rw [hb]; exact d3
  obtain ⟨U, hsteps, hrun, hend, hW, hsame, ce, hce, hO⟩ := X₁.ctorThrow0 hexec htr (own := own) (cls := cls) (names := names) (ic := ic) hown' hcls hnames h (fun x hx => nomatch hx) hfX hkX hcellA (by rw [hhp, hT]; exact Nat.le_refl _)
    (g := { method := m, pc := pc + 4, locals := ls, stack := .ref T.heap.size :: .ref T.heap.size :: rest, locked := none }) rfl hsize rfl rfl (rest := rest) rfl
    (by rw [hb]; exact d4) (by rw [hb]; exact d7) hout hRframes (by simp only [List.map_cons, List.sum_cons, hcat]; omega) hlocks
  obtain ⟨f1, f2⟩ := vx_frame hsame
  rw [hhp] at f1 f2
  have hWs : s.WarmedH U.vm := State.WarmedH.trans hW0 hW
  have hcl : s.vm.findClass cls = some ce.cls := by
    have h9 := hO.cls
    rw [hvm] at h9
    exact h9
  have hall : s.sameButNew ({ U with vm := s.vm } : State) locs mc ms := by
    subst hA
    obtain ⟨e1, e2⟩ := hsame
    rw [State.setFrames_setFrames] at e1
    have h2 : (T.setVm s.vm).sameButNew ({ U with vm := s.vm } : State) [] (0 + 1) (0 + 6) := ⟨e1, e2⟩
    have h3 := X.same.trans h2
    rw [List.append_nil] at h3
    exact h3.mono hc hs
  refine ⟨U, ?_, .threw T.heap.size, hrun, hend, Or.inr ⟨T.heap.size, rfl, cls, ce, locs, hx U hWs.alike f1 (fun q hq => f2 q hq (fun z hz => nomatch hz)), hce, hO.vm, hcl, hWs, hall, hf⟩⟩
  refine st1 _ ?_
  show Steps p.tables e below (T1.setTop { method := m, pc := pc + 3, locals := ls, stack := .ref T.heap.size :: rest, locked := none }) _
  jvm_step X₁.here [X₁.here.top, hexec, d3', Value.category]
  exact hsteps
/-- 'throw new E("text")': new; dup; ldc; invokespecial; athrow -/
theorem vx_throwS {cc : ByteArray} {pc : Nat} (hexec : p.tables.exec = Jvm.exec) (hb : c.code = cc) (hl : l.stackTraces = false) {own cls text : String} {names : List String} {ik is ic mc ms sa : Nat} {A : Nat → Prop}
    (hown : s.vm.findClass own = some m.cls) (hcls : Bundle.fit cls = true) (hnames : ∀ n ∈ names, Bundle.fit n = true)
    (hk : (Cond.classLink own ik cls).before args s = true) (hini : (Cond.initialized cls).before args s = true) (hstr : vk_R own is text sa s) (hat : ∀ w ∈ vx_atS own ic cls names, w.before args s = true)
    (hgood : ∀ w ∈ Cond.classLink own ik cls :: Cond.initialized cls :: vx_atS own ic cls names, vx_ot w = true)
    (hU : vx_Zq Bundle.tN "UNASSIGNED_STACK" Bundle.steD A s s.heap) (hN : vx_Zq Bundle.tN "SUPPRESSED_SENTINEL" Bundle.listD A s s.heap) (hS : va_S A s.heap H locs) (hsize : ls.size = c.maxLocals)
    (d0 : decode cc pc = .ok (.new ik, 3)) (d3 : decode cc (pc + 3) = .ok (.dup, 1)) (d4 : decode cc (pc + 4) = .ok (.ldc is, 2)) (d6 : decode cc (pc + 6) = .ok (.invokespecial ic, 3)) (d9 : decode cc (pc + 9) = .ok (.athrow, 1))
    (hout : ∀ x ∈ c.exceptionTable.toList, covers x (pc + 9) = false)
    (hRframes : names.length + 3 < R.frames) (hRlocals : (rest.map fun v => v.category).sum + (13 * (names.length + 1) + 43) ≤ R.locals) (hRcells : cells + 1 ≤ R.cells) (hRslots : slots + 6 ≤ R.slots) (hlocks : meth.locks = false)
    (hx : ∀ t : State, s.vm.Alike t.vm → H.size ≤ t.heap.size → (∀ q : Nat, q < H.size → t.heap[q]? = H[q]?) → XC cls s t)
    (hf : ∀ z ∈ locs, free z.base) (hc : cells + 1 ≤ mc) (hs : slots + 6 ≤ ms) :
    W p l e R s m args below meth c H locs cells slots (vx_MQ below Qc XC args s mc ms free) (F0 m pc ls rest) := by
  intro T hT X
  have htr : e.platform.stackTraces = false := (show e.platform.stackTraces = l.stackTraces by rw [X.admits.platform]).trans hl
  have Y := vx_rebase X (R' := { frames := R.frames, locals := R.locals, cells := 1, slots := 6 }) (Nat.le_refl _) (Nat.le_refl _) hRcells hRslots
  obtain ⟨s', hA⟩ : ∃ z, z = (T.setVm s.vm).setFrames (.invoking m args :: below) := ⟨_, rfl⟩
  rw [← hA] at Y
  have hvm : s'.vm = s.vm := by rw [hA]; rfl
  have hhp : s'.heap = H := by rw [hA]; exact hT
  have hW0 : s.WarmedH s'.vm := by rw [hvm]; exact State.WarmedH.refl s
  have hat' : ∀ w ∈ vx_atS own ic cls names, w.before args s' = true := fun w hw => vx_ot_at hW0 hvm.symm (hgood w (List.mem_cons_of_mem _ (List.mem_cons_of_mem _ hw))) (hat w hw)
  have hk' : (Cond.classLink own ik cls).before args s' = true := vx_ot_at hW0 hvm.symm (hgood _ List.mem_cons_self) hk
  have hini' : (Cond.initialized cls).before args s' = true := vx_ot_at hW0 hvm.symm (hgood _ (List.mem_cons_of_mem _ List.mem_cons_self)) hini
  have hU' : vx_Zq Bundle.tN "UNASSIGNED_STACK" Bundle.steD A s' s'.heap := by rw [hhp]; exact vx_Zq.moved hW0.alike (hU.kept hS.2.1)
  have hN' : vx_Zq Bundle.tN "SUPPRESSED_SENTINEL" Bundle.listD A s' s'.heap := by rw [hhp]; exact vx_Zq.moved hW0.alike (hN.kept hS.2.1)
  have h : ∀ w ∈ Bundle.ownAtoms own ic cls names, w.before args s' = true := vx_own hat' (vx_isRefq hU'.1) (vx_isRefq hN'.1) hU'.2.word hN'.2.word
  have hown' : s'.vm.findClass own = some m.cls := by rw [hvm]; exact hown
  have hins : (Cond.instantiable cls 6).before args s' = true := h _ (by simp [Bundle.ownAtoms])
  obtain ⟨vm₁, cX, kX, hfX, hkX, -, -, X₁, st1⟩ := Y.newCold hexec (own := own) (C := cls) (index := ik) (n := 6) hown' hk' hins hini'
    (g := F0 m pc ls rest) rfl (by rw [hb]; exact d0) (Nat.le_refl _) (Nat.le_refl _)
  generalize hT1 : (T.setVm vm₁).pushCell { cls := cX, slots := kX.instanceTypes.map defaultValue, vm := .none } = T1 at X₁ st1
  have hcat : (Value.ref T.heap.size).category = 1 := rfl
  have hcellA : T1.heap[T.heap.size]? = some (freshCell cX kX) := by rw [← hT1]; exact State.heap_pushCell_size _ _
  have d3' : decode c.code (pc + 3) = .ok (.dup, 1) := by rw [hb]; exact d3
  have d4' : decode c.code (pc + 4) = .ok (.ldc is, 2) := by rw [hb]; exact d4
  have hstr' : vk_R own is text sa s' := vk_R.warm hW0 hstr
  obtain ⟨U, hsteps, hrun, hend, hW, hsame, ce, hce, hO⟩ := X₁.ctorThrowS hexec htr (own := own) (cls := cls) (names := names) (ic := ic) hown' hcls hnames h (fun x hx => nomatch hx) hfX hkX hcellA (by rw [hhp, hT]; exact Nat.le_refl _) (msg := .ref sa) rfl
    (g := { method := m, pc := pc + 6, locals := ls, stack := .ref sa :: .ref T.heap.size :: .ref T.heap.size :: rest, locked := none }) rfl hsize rfl rfl (rest := rest) rfl
    (by rw [hb]; exact d6) (by rw [hb]; exact d9) hout hRframes (by simp only [List.map_cons, List.sum_cons, hcat]; omega) hlocks
  obtain ⟨f1, f2⟩ := vx_frame hsame
  rw [hhp] at f1 f2
  have hWs : s.WarmedH U.vm := State.WarmedH.trans hW0 hW
  have hcl : s.vm.findClass cls = some ce.cls := by
    have h9 := hO.cls
    rw [hvm] at h9
    exact h9
  have hall : s.sameButNew ({ U with vm := s.vm } : State) locs mc ms := by
    subst hA
    obtain ⟨e1, e2⟩ := hsame
    rw [State.setFrames_setFrames] at e1
    have h2 : (T.setVm s.vm).sameButNew ({ U with vm := s.vm } : State) [] (0 + 1) (0 + 6) := ⟨e1, e2⟩
    have h3 := X.same.trans h2
    rw [List.append_nil] at h3
    exact h3.mono hc hs
  refine ⟨U, ?_, .threw T.heap.size, hrun, hend, Or.inr ⟨T.heap.size, rfl, cls, ce, locs, hx U hWs.alike f1 (fun q hq => f2 q hq (fun z hz => nomatch hz)), hce, hO.vm, hcl, hWs, hall, hf⟩⟩
  refine st1 _ ?_
  show Steps p.tables e below (T1.setTop { method := m, pc := pc + 3, locals := ls, stack := .ref T.heap.size :: rest, locked := none }) _
  jvm_step X₁.here [X₁.here.top, hexec, d3', Value.category]
  exact X₁.ldcString hexec (own := own) (text := text) (index := is) (a := sa) hown' hstr'.1 hstr'.2
    (g := { method := m, pc := pc + 4, locals := ls, stack := .ref T.heap.size :: .ref T.heap.size :: rest, locked := none }) rfl d4' _ hsteps
/-- 'throw new E("text")', the text by a wide index -/
theorem vx_throwSW {cc : ByteArray} {pc : Nat} (hexec : p.tables.exec = Jvm.exec) (hb : c.code = cc) (hl : l.stackTraces = false) {own cls text : String} {names : List String} {ik is ic mc ms sa : Nat} {A : Nat → Prop}
    (hown : s.vm.findClass own = some m.cls) (hcls : Bundle.fit cls = true) (hnames : ∀ n ∈ names, Bundle.fit n = true)
    (hk : (Cond.classLink own ik cls).before args s = true) (hini : (Cond.initialized cls).before args s = true) (hstr : vk_R own is text sa s) (hat : ∀ w ∈ vx_atS own ic cls names, w.before args s = true)
    (hgood : ∀ w ∈ Cond.classLink own ik cls :: Cond.initialized cls :: vx_atS own ic cls names, vx_ot w = true)
    (hU : vx_Zq Bundle.tN "UNASSIGNED_STACK" Bundle.steD A s s.heap) (hN : vx_Zq Bundle.tN "SUPPRESSED_SENTINEL" Bundle.listD A s s.heap) (hS : va_S A s.heap H locs) (hsize : ls.size = c.maxLocals)
    (d0 : decode cc pc = .ok (.new ik, 3)) (d3 : decode cc (pc + 3) = .ok (.dup, 1)) (d4 : decode cc (pc + 4) = .ok (.ldc_w is, 3)) (d7 : decode cc (pc + 7) = .ok (.invokespecial ic, 3)) (d10 : decode cc (pc + 10) = .ok (.athrow, 1))
    (hout : ∀ x ∈ c.exceptionTable.toList, covers x (pc + 10) = false)
    (hRframes : names.length + 3 < R.frames) (hRlocals : (rest.map fun v => v.category).sum + (13 * (names.length + 1) + 43) ≤ R.locals) (hRcells : cells + 1 ≤ R.cells) (hRslots : slots + 6 ≤ R.slots) (hlocks : meth.locks = false)
    (hx : ∀ t : State, s.vm.Alike t.vm → H.size ≤ t.heap.size → (∀ q : Nat, q < H.size → t.heap[q]? = H[q]?) → XC cls s t)
    (hf : ∀ z ∈ locs, free z.base) (hc : cells + 1 ≤ mc) (hs : slots + 6 ≤ ms) :
    W p l e R s m args below meth c H locs cells slots (vx_MQ below Qc XC args s mc ms free) (F0 m pc ls rest) := by
  intro T hT X
  have htr : e.platform.stackTraces = false := (show e.platform.stackTraces = l.stackTraces by rw [X.admits.platform]).trans hl
  have Y := vx_rebase X (R' := { frames := R.frames, locals := R.locals, cells := 1, slots := 6 }) (Nat.le_refl _) (Nat.le_refl _) hRcells hRslots
  obtain ⟨s', hA⟩ : ∃ z, z = (T.setVm s.vm).setFrames (.invoking m args :: below) := ⟨_, rfl⟩
  rw [← hA] at Y
  have hvm : s'.vm = s.vm := by rw [hA]; rfl
  have hhp : s'.heap = H := by rw [hA]; exact hT
  have hW0 : s.WarmedH s'.vm := by rw [hvm]; exact State.WarmedH.refl s
  have hat' : ∀ w ∈ vx_atS own ic cls names, w.before args s' = true := fun w hw => vx_ot_at hW0 hvm.symm (hgood w (List.mem_cons_of_mem _ (List.mem_cons_of_mem _ hw))) (hat w hw)
  have hk' : (Cond.classLink own ik cls).before args s' = true := vx_ot_at hW0 hvm.symm (hgood _ List.mem_cons_self) hk
  have hini' : (Cond.initialized cls).before args s' = true := vx_ot_at hW0 hvm.symm (hgood _ (List.mem_cons_of_mem _ List.mem_cons_self)) hini
  have hU' : vx_Zq Bundle.tN "UNASSIGNED_STACK" Bundle.steD A s' s'.heap := by rw [hhp]; exact vx_Zq.moved hW0.alike (hU.kept hS.2.1)
  have hN' : vx_Zq Bundle.tN "SUPPRESSED_SENTINEL" Bundle.listD A s' s'.heap := by rw [hhp]; exact vx_Zq.moved hW0.alike (hN.kept hS.2.1)
  have h : ∀ w ∈ Bundle.ownAtoms own ic cls names, w.before args s' = true := vx_own hat' (vx_isRefq hU'.1) (vx_isRefq hN'.1) hU'.2.word hN'.2.word
  have hown' : s'.vm.findClass own = some m.cls := by rw [hvm]; exact hown
  have hins : (Cond.instantiable cls 6).before args s' = true := h _ (by simp [Bundle.ownAtoms])
  obtain ⟨vm₁, cX, kX, hfX, hkX, -, -, X₁, st1⟩ := Y.newCold hexec (own := own) (C := cls) (index := ik) (n := 6) hown' hk' hins hini'
    (g := F0 m pc ls rest) rfl (by rw [hb]; exact d0) (Nat.le_refl _) (Nat.le_refl _)
  generalize hT1 : (T.setVm vm₁).pushCell { cls := cX, slots := kX.instanceTypes.map defaultValue, vm := .none } = T1 at X₁ st1
  have hcat : (Value.ref T.heap.size).category = 1 := rfl
  have hcellA : T1.heap[T.heap.size]? = some (freshCell cX kX) := by rw [← hT1]; exact State.heap_pushCell_size _ _
  have d3' : decode c.code (pc + 3) = .ok (.dup, 1) := by rw [hb]; exact d3
  have d4' : decode c.code (pc + 4) = .ok (.ldc_w is, 3) := by rw [hb]; exact d4
  have hstr' : vk_R own is text sa s' := vk_R.warm hW0 hstr
  obtain ⟨U, hsteps, hrun, hend, hW, hsame, ce, hce, hO⟩ := X₁.ctorThrowS hexec htr (own := own) (cls := cls) (names := names) (ic := ic) hown' hcls hnames h (fun x hx => nomatch hx) hfX hkX hcellA (by rw [hhp, hT]; exact Nat.le_refl _) (msg := .ref sa) rfl
    (g := { method := m, pc := pc + 7, locals := ls, stack := .ref sa :: .ref T.heap.size :: .ref T.heap.size :: rest, locked := none }) rfl hsize rfl rfl (rest := rest) rfl
    (by rw [hb]; exact d7) (by rw [hb]; exact d10) hout hRframes (by simp only [List.map_cons, List.sum_cons, hcat]; omega) hlocks
  obtain ⟨f1, f2⟩ := vx_frame hsame
  rw [hhp] at f1 f2
  have hWs : s.WarmedH U.vm := State.WarmedH.trans hW0 hW
  have hcl : s.vm.findClass cls = some ce.cls := by
    have h9 := hO.cls
    rw [hvm] at h9
    exact h9
  have hall : s.sameButNew ({ U with vm := s.vm } : State) locs mc ms := by
    subst hA
    obtain ⟨e1, e2⟩ := hsame
    rw [State.setFrames_setFrames] at e1
    have h2 : (T.setVm s.vm).sameButNew ({ U with vm := s.vm } : State) [] (0 + 1) (0 + 6) := ⟨e1, e2⟩
    have h3 := X.same.trans h2
    rw [List.append_nil] at h3
    exact h3.mono hc hs
  refine ⟨U, ?_, .threw T.heap.size, hrun, hend, Or.inr ⟨T.heap.size, rfl, cls, ce, locs, hx U hWs.alike f1 (fun q hq => f2 q hq (fun z hz => nomatch hz)), hce, hO.vm, hcl, hWs, hall, hf⟩⟩
  refine st1 _ ?_
  show Steps p.tables e below (T1.setTop { method := m, pc := pc + 3, locals := ls, stack := .ref T.heap.size :: rest, locked := none }) _
  jvm_step X₁.here [X₁.here.top, hexec, d3', Value.category]
  exact X₁.ldcStringW hexec (own := own) (text := text) (index := is) (a := sa) hown' hstr'.1 hstr'.2
    (g := { method := m, pc := pc + 4, locals := ls, stack := .ref T.heap.size :: .ref T.heap.size :: rest, locked := none }) rfl d4' _ hsteps
end Ends
section Bodies
variable {l : Launch}
theorem vx_ofW {y : MethodName} {ws ws' : List Cond} {rm : Room} {Pc : Array Value → State → Prop} {Qc : Array Value → State → Outcome → State → Prop} {XC : String → State → State → Prop} {mc ms : Nat} {free : Addr → Prop} {cc : ByteArray} {maxL : Nat} {ret : Option FieldType}
    (hy : plainName y.cls = true) (hw : ws = Cond.code y cc maxL ret :: ws')
    (body : ∀ p e s m args below meth c s₁, BodyLoose p l y (headSpec ws rm) cc maxL ret e s m args below meth c s₁ → c.maxLocals = maxL → (∀ x ∈ c.exceptionTable.toList, False) → Pc args s →
      W p l e (headSpec ws rm).room s m args below meth c s.heap [] 0 0 (vx_MQ below Qc XC args s mc ms free) (entryFrame m args maxL)) : vx_Met l y ws rm Pc Qc XC mc ms free := by
  refine MetFree.of_bodyS (code := cc) (maxLocals := maxL) (ret := ret) hy ?_ ?_
  · intro args s m h hn
    obtain ⟨meth, c, h1, h2, h3, h4, h5, h6, -, -⟩ := Cond.code_spec hn (atoms_spec (ws := ws) h _ (by rw [hw]; exact List.mem_cons_self))
    exact ⟨meth, c, h1, h2, h3, h4, h5, h6⟩
  · intro p e s m args below meth c s₁ B hml hP _
    have hh0 : s₁.heap = s.heap := by rw [B.state]; rfl
    have ht : ∀ x ∈ c.exceptionTable.toList, False := by
      obtain ⟨meth9, c9, h1, h2, -, -, -, -, h7, -⟩ := Cond.code_spec B.named (atoms_spec (ws := ws) B.pre _ (by rw [hw]; exact List.mem_cons_self))
      cases Option.some.inj (h1.symm.trans B.method)
      cases Option.some.inj (h2.symm.trans (Stand.of_body B).code)
      intro x hx
      rw [Array.isEmpty_iff.mp h7] at hx
      cases hx
    obtain ⟨t, a1, o, b1, b2, b3⟩ := body p e s m args below meth c s₁ B hml ht hP s₁ hh0 (Stand.of_body B)
    exact ⟨t, o, a1, b1, b2, b3⟩
/-- the table of a body with handlers -/
theorem vx_table {p : Program} {x y : MethodName} {S : Spec} {cc bytes : ByteArray} {maxL maxL' : Nat} {ret ret' : Option FieldType} {e : Env} {s s₁ : State} {m : MethodId} {args : Array Value} {below : List Frame} {meth : Method} {c : Code} {hh : List (Nat × Nat × Nat × Nat)}
    (B : BodyLoose p l y S cc maxL ret e s m args below meth c s₁) (h : (Cond.codeWith y bytes maxL' ret' hh).before args s = true) : c.exceptionTable.toList = tableOf hh := by
  obtain ⟨m9, meth9, c9, hn9, h1, h2, -, -, h6, -⟩ := Cond.codeWith_spec h
  cases Option.some.inj (hn9.symm.trans B.named)
  cases Option.some.inj (h1.symm.trans B.method)
  cases Option.some.inj (h2.symm.trans (Stand.of_body B).code)
  rw [← h6, table_eq]
end Bodies
end VXA
/-! ===== END ===== -/
/-! ===== BEGIN a static call of a method with an exception table ===== -/
section VXS
variable {p : Program} {l : Launch} {e : Env} {R : Room} {s : State} {m : MethodId} {args : Array Value} {below : List Frame} {meth : Method} {c : Code} {T : State} {H : Heap} {locs : List Loc} {cells slots : Nat}
abbrev vx_CSW (R : Room) (s : State) (args : Array Value) (own : String) (index : Nat) (y : MethodName) (bytes : ByteArray) (maxL : Nat) (ret : Option FieldType) (hh : List (Nat × Nat × Nat × Nat)) (ws : List Cond) (rm : Room) (mc ms n : Nat) : Prop :=
  (rm.cells = mc ∧ rm.slots = ms ∧ rm.frames + 1 ≤ R.frames ∧ 8 + (maxL + 11) + rm.locals ≤ R.locals ∧ (∀ w ∈ ws, ∀ (a' : Array Value) (U : State), s.WarmedH U.vm → w.before a' U = true) ∧ Cond.codeWith y bytes maxL ret hh ∈ ws) ∧
  (Cond.codeWith y bytes maxL ret hh).before args s = true ∧ (Cond.initialized y.cls).before args s = true ∧ (y.cls ≠ "java/lang/invoke/MethodHandle" ∧ y.cls ≠ "java/lang/invoke/VarHandle") ∧
  (∀ sig, parseMethodDescriptor y.desc = some sig → n = sig.parameters.length) ∧ (Cond.methodLink own index y).before args s = true ∧ (Cond.static y).before args s = true
theorem vx_cwSW {own : String} {index maxL mc ms : Nat} {y : MethodName} {bytes : ByteArray} {ret : Option FieldType} {hh : List (Nat × Nat × Nat × Nat)} {Ts ws ws' : List Cond} {rm : Room} (n : Nat) (ht : ∀ w ∈ Ts, w.before args s = true) (hT : GoodIn Ts (va_wsS own index y ws)) (hw : ws = Cond.codeWith y bytes maxL ret hh :: ws') (hrc : rm.cells = mc) (hrs : rm.slots = ms)
    (hd : y.cls ≠ "java/lang/invoke/MethodHandle" ∧ y.cls ≠ "java/lang/invoke/VarHandle" ∧ (parseMethodDescriptor y.desc).map (fun d => d.parameters.length) = some n) (hR : rm.frames + 1 ≤ R.frames ∧ 8 + (maxL + 11) + rm.locals ≤ R.locals) :
    vx_CSW R s args own index y bytes maxL ret hh ws rm mc ms n := by
  have ok : ∀ w ∈ va_wsS own index y ws, w.before args s = true := fun w h => ht w (hT w h).1
  have hG : GoodIn Ts ws := fun w h => hT w (by unfold va_wsS; exact List.mem_append_right _ h)
  have hc : Cond.codeWith y bytes maxL ret hh ∈ ws := by rw [hw]; exact List.mem_cons_self
  refine ⟨⟨hrc, hrs, hR.1, hR.2, pay_in ht hG, hc⟩, ht _ (hG _ hc).1, ok _ (by simp [va_wsS]), ⟨hd.1, hd.2.1⟩, fun sig h => ?_, ok _ (by simp [va_wsS]), ok _ (by simp [va_wsS])⟩
  have h2 := hd.2.2
  rw [h] at h2
  exact (Option.some.inj h2).symm
theorem vx_callSW (X : Stand p l e R s m args below meth c T locs cells slots) (hexec : p.tables.exec = Jvm.exec) {own : String} {index : Nat} {y : MethodName} {bytes : ByteArray} {maxL : Nat} {ret : Option FieldType} {hh : List (Nat × Nat × Nat × Nat)}
    (hown : s.vm.findClass own = some m.cls) (hlink : (Cond.methodLink own index y).before args s = true) (hstat : (Cond.static y).before args s = true) (hinit : (Cond.initialized y.cls).before args s = true)
    (hcode : (Cond.codeWith y bytes maxL ret hh).before args s = true) (hy : y.cls ≠ "java/lang/invoke/MethodHandle" ∧ y.cls ≠ "java/lang/invoke/VarHandle")
    {W9 : Nat} {Pre : Pt → Array Value → Prop} {Post : Pt → Array Value → Option Value → Pt → Prop} (hK : Back l R p e below s args y 3 W9 Pre Post)
    {g : JFrame} (hg : g.method = m) (hsize : g.locals.size = c.maxLocals) {argsL rest : List Value} (hlen : ∀ sig, parseMethodDescriptor y.desc = some sig → argsL.length = sig.parameters.length)
    (hstack : g.stack = argsL.reverse ++ rest) (hW : 2 * g.monitorRoom + (rest.map fun v => v.category).sum ≤ W9) (hdg : decode c.code g.pc = .ok (.invokestatic index, 3))
    (hpre : ∀ vm₁, s.WarmedH vm₁ → Pre ⟨T.setVm vm₁, locs, cells, slots⟩ argsL.toArray) :
    ∃ (v : Option Value) (vm₁ : Vm) (B : Pt), s.WarmedH vm₁ ∧ Stand p l e R s m args below meth c B.U B.locs B.cells B.slots ∧ Post ⟨T.setVm vm₁, locs, cells, slots⟩ argsL.toArray v B ∧
      ∀ target, Steps p.tables e below (B.U.setTop { g with pc := g.pc + 3, stack := v.toList ++ rest }) target → Steps p.tables e below (T.setTop g) target := by
  obtain ⟨mk, methM, cM, hnamed, hmethM, -, -, -, -, -, -, hsigM⟩ := Cond.codeWith_spec hcode
  have hstatic : methM.isStatic = true := Cond.static_spec hnamed hmethM hstat
  obtain ⟨kP, hkP, -⟩ := className_of_methodNamed hnamed
  have hinitP : kP.init = .initialized := Cond.initialized_spec (findClass_of_methodNamed hnamed) hkP hinit
  obtain ⟨vm₁, X₁, hstep₁⟩ := X.invokestatic hexec hown hlink hnamed hmethM hstatic hkP hinitP hy (g := g) hg (argsL := argsL) (rest := rest) (hlen _ hsigM) hstack hdg
  obtain ⟨v, B, X', hpost, hsteps⟩ := hK m meth c ⟨T.setVm vm₁, locs, cells, slots⟩ { g with stack := rest } (.invokestatic index) mk argsL.toArray X₁ hg hsize hdg hW (X₁.named hnamed) (hpre vm₁ X₁.warmed)
  exact ⟨v, vm₁, B, X₁.warmed, X', hpost, fun target h => hstep₁ _ fun acts => by rw [doInvoke_state]; exact hsteps.trans h⟩
theorem vx_runSW {y : MethodName} {bytes cc : ByteArray} {maxL nL mc ms n index : Nat} {ret : Option FieldType} {hh : List (Nat × Nat × Nat × Nat)} {ws : List Cond} {rm : Room} {Pc : Array Value → State → Prop} {Qc : Array Value → State → Outcome → State → Prop} {free : Addr → Prop} {Ts : List Cond} {own : String} {As rest : List Value} {g : JFrame}
    (S : CallFix p m c cc nL s args Ts own) (hM : Met l y ws rm Pc Qc mc ms free) (cw : vx_CSW R s args own index y bytes maxL ret hh ws rm mc ms n) (hp : PreS s H Pc As)
    (hg : g.method = m) (hn : As.length = n) (hsize : g.locals.size = nL) (hstack : g.stack = As.reverse ++ rest) (hW : 2 * g.monitorRoom + (rest.map fun v => v.category).sum ≤ 8) (hdg : decode cc g.pc = .ok (.invokestatic index, 3)) (hf : cells + mc ≤ R.cells ∧ slots + ms ≤ R.slots) :
    va_Run p l e R s m args below meth c H locs cells slots mc ms g rest (Qc As.toArray) (free) := by
  obtain ⟨⟨hrc, hrs, hfr, hlo, hws, hcw⟩, hcode, hini, hy, hlen, hl, hstt⟩ := cw
  have hK : Back l R p e below s args y 3 8 (PreOf R mc ms Pc) (PostOf Qc mc ms free) := va_backW (hh := hh) (bytes := bytes) (maxL := maxL) (ret := ret) hM hp.1 hrc hrs hfr hlo hws hcw (fun a' U hW => word_at hW (Or.inl (by first | rfl | simp [Cond.onTables, Cond.keeps, Cond.steady])) hini)
  obtain ⟨hx, hb, hml, ho, -⟩ := S
  intro T hT X
  obtain ⟨v, vm₁, ⟨U', l2, c2, s2⟩, hW₁, X', ⟨g', mk, t, L, e1, e2, hq, h1, hL, h2, h3⟩, st⟩ := vx_callSW X hx (hh := hh) (bytes := bytes) (maxL := maxL) (ret := ret) ho hl hstt hini hcode hy hK hg (hsize.trans hml.symm) (argsL := As) (rest := rest) (fun sig h => hn.trans (hlen sig h)) hstack hW (by rw [hb]; exact hdg)
    (fun vm₁ hW₁ => ⟨hf.1, hf.2, hp.2 (T.setVm vm₁) hT hW₁⟩)
  dsimp only [Pt.U, Pt.locs, Pt.cells, Pt.slots] at X' e1 e2 h1 h2 h3 st
  subst h1; subst h2; subst h3
  exact ⟨v, (T.setVm vm₁).calling g' mk As.toArray, t, U', L, hT, X', hL, e1, e2, hq, st⟩
/-- not caught here, past rows that name other classes: it goes on to the caller -/
theorem vx_outP {p : Program} {l : Launch} {e : Env} {R : Room} {s : State} {m : MethodId} {args : Array Value} {below : List Frame} {meth : Method} {c : Code} {H : Heap} {locs : List Loc} {cells slots : Nat} {free : Addr → Prop} {ls : Array Slot} {rest : List Value} {Qc : Array Value → State → Outcome → State → Prop} {XC : String → State → State → Prop}
    {pc : Nat} {own E : String} {ce : Cell} {q : Addr} {mc ms : Nat} (hown : s.vm.findClass own = some m.cls) (hlocks : meth.locks = false)
    (hpass : ∀ z ∈ c.exceptionTable.toList, covers z pc = false ∨ (z.catchType ≠ 0 ∧ ∃ nm : String, (Cond.classLink own z.catchType nm).before args s = true ∧ va_Nc E nm s)) (hcell : H[q]? = some ce) (hv : ce.vm = .none) (hcl : s.vm.findClass E = some ce.cls)
    (hx : ∀ t : State, t.heap = H → s.vm.Alike t.vm → XC E s t) (hf : ∀ z ∈ locs, free z.base) (hc : cells ≤ mc) (hs : slots ≤ ms) :
    vx_W p l e R s m args below meth c H locs cells slots (vx_MQ below Qc XC args s mc ms free) (F0 m pc ls rest) q := by
  intro T hT X
  have hpl : e.platform.magicAccessors = ({} : Platform).magicAccessors := by rw [X.admits.platform]
  obtain ⟨vm', hW', X', st⟩ := X.outThrough hlocks q (g := F0 m pc ls rest) rfl rfl rfl (cell := ce) (by rw [hT]; exact hcell) (by rw [hv]; rfl)
    (by obtain ⟨k9, h9, -⟩ := Vm.findClass_spec hcl; exact ⟨k9, h9⟩) (fun z hz => by
      rcases hpass z hz with h | ⟨hz0, nm, hl1, hn1⟩
      · exact Or.inl h
      · obtain ⟨c6, hc6, hcl6⟩ := Cond.classLink_spec hown hl1 e.platform hpl
        obtain ⟨a8, b8, h1, h2, h3⟩ := hn1
        cases Option.some.inj (h1.symm.trans hcl)
        cases Option.some.inj (h2.symm.trans hc6)
        exact Or.inr ⟨hz0, _, hcl6, h3⟩)
  obtain ⟨g₀, hfr⟩ := X'.frames_eq
  have hcell9 : ((T.setVm vm').setFrames (.throwing q :: below)).heap[q]? = some ce := by
    show T.heap[q]? = some ce
    rw [hT]; exact hcell
  have hend : Ended ((T.setVm vm').setFrames (.throwing q :: below)) below (.threw q) := State.frames_setFrames _ (State.cur_lt_of_frames hfr)
  refine ⟨(T.setVm vm').setFrames (.throwing q :: below), ?_, .threw q, X'.here.running, hend, Or.inr ⟨q, rfl, E, ce, locs, hx _ hT (X'.ends _).1.alike, hcell9, hv, hcl, (X'.ends _).1, (X'.ends _).2.mono hc hs, hf⟩⟩
  rw [X.pushThrowing_eq]
  exact st
/-- a thing of a world lies in the heap -/
theorem vx_lt {D : va_G} {cl : List vw_C} {ws : va_W} {H1 : Heap} (h : va_P D cl ws H1) {k : Nat} {q : Nat × va_E} (hk : ws[k]? = some q) : q.1 < H1.size := (h k q hk).lt
end VXS
/-! ===== END ===== -/
/-! ===== BEGIN methods with a table of their own: called by a name, returning or throwing ===== -/
section VXH
/-! vx_backW, vx_callVX, vx_callSX, vx_callVW, vx_runVW, vx_runVX, vx_runSX, vx_ofWH follow the same proofs as their sisters above (Free/Laws.lean, Shelf42/LK1.lean); vx_outP calls Shelf42/NT130.lean (outThrough). -/
section
variable {l : Launch} {R : Room} {p : Program} {e : Env} {below : List Frame} {s : State} {sargs : Array Value} {y : MethodName} {len W9 : Nat}
theorem vx_backW {ws : List Cond} {rm : Room} {Pc : Array Value → State → Prop} {Qc : Array Value → State → Outcome → State → Prop} {XC : String → State → State → Prop} {mc ms : Nat} {free : Addr → Prop} {bytes : ByteArray} {maxL : Nat} {ret : Option FieldType} {hh : List (Nat × Nat × Nat × Nat)}
    (hM : vx_Met l y ws rm Pc Qc XC mc ms free) (hblind : FrameBlind Pc) (hrc : rm.cells = mc) (hrs : rm.slots = ms)
    (hframes : rm.frames + 1 ≤ R.frames) (hlocals : W9 + (maxL + 11) + rm.locals ≤ R.locals)
    (hws : ∀ w ∈ ws, ∀ a' U, s.WarmedH U.vm → w.before a' U = true) (hcode : Cond.codeWith y bytes maxL ret hh ∈ ws) (hinit : ∀ a' U, s.WarmedH U.vm → (Cond.initialized y.cls).before a' U = true) :
    vx_Back l R p e below s sargs y len W9 (PreOf R mc ms Pc) (PostOf Qc mc ms free) (vx_Post XC mc ms free) := by
  intro m meth c A g ig mk a X hg hsize hdg hW hn hp
  have h1 : (headSpec ws rm).pre.before a A.U = true := atoms_intro fun w hw => hws w hw _ _ X.warmed
  have h2 : (Cond.codeWith y bytes maxL ret hh).before a A.U = true := hws _ hcode _ _ X.warmed
  have h3 : (Cond.initialized y.cls).before a A.U = true := hinit _ _ X.warmed
  have h4 : A.cells + (headSpec ws rm).room.cells ≤ R.cells := by rw [show (headSpec ws rm).room.cells = mc from hrc]; exact hp.1
  have h5 : A.slots + (headSpec ws rm).room.slots ≤ R.slots := by rw [show (headSpec ws rm).room.slots = ms from hrs]; exact hp.2.1
  have hPc : Pc a (A.U.calling g mk a) := hblind _ _ _ _ hp.2.2
  obtain ⟨U, Ls, c0, s0⟩ := A
  dsimp only [Pt.U, Pt.locs, Pt.cells, Pt.slots] at h1 h2 h3 h4 h5 X hn hPc ⊢
  obtain ⟨m9, methY, cY, hn9, hmY, hcY, -, hlY, -⟩ := Cond.codeWith_spec h2
  cases Option.some.inj (hn9.symm.trans hn)
  obtain ⟨kY, hkY, -⟩ := className_of_methodNamed hn
  have hinitY : kY.init = .initialized := Cond.initialized_spec (findClass_of_methodNamed hn) hkY h3
  have h : At U g.method c below := by rw [hg]; exact X.here
  have hlocals9 : W9 + (maxL + 11) + (headSpec ws rm).room.locals ≤ R.locals := hlocals
  have happ : (headSpec ws rm).appliesLoose y e.platform (U.calling g mk a) = true :=
    Spec.appliesLoose_calling (g := g) h hdg hn hkY hinitY
      (X.room_calling (g := g) (R' := (headSpec ws rm).room) hsize hmY hcY hframes (by rw [hlY]; omega) h4 h5) h1
  obtain ⟨mid, hmid⟩ := h.above
  have hfr : (U.setTop g).frames = (.java g :: mid) ++ below := by rw [State.frames_setTop' g h.top, hmid]; rfl
  obtain ⟨o, s₂, hsteps, -, hend, hq⟩ := Steps.callFree hM p X.admits X.cas X.clock (acts := []) hfr happ hPc trivial
  have hq' : vx_Q Qc XC mc ms free a (U.calling g mk a) o s₂ := hq
  rw [State.frames_setTop' g h.top] at hend
  obtain ⟨g₀, hg0⟩ := Option.isSome_iff_exists.mp h.top
  obtain ⟨r, hr⟩ := State.topJava?_eq_some.mp hg0
  have hr' : (({ U with heap := s₂.heap, slotsUsed := s₂.slotsUsed } : State).setVm s₂.vm).frames = .java g₀ :: r := hr
  rcases hq' with ⟨hqc, L, hfe, hL⟩ | ⟨q, rfl, E, ce, L, hx, hce, hcv, hcl, hW₂, hsm, hL⟩
  · obtain ⟨⟨v, rfl⟩, hW₂, e2, q2, q3, q4, q5, q6⟩ := id hfe
    have e3 : s₂ = ({ (U.calling g mk a).setFrames s₂.frames with heap := s₂.heap, slotsUsed := s₂.slotsUsed } : State).setVm s₂.vm := by
      have : s₂ = ({ s₂ with vm := (U.calling g mk a).vm } : State).setVm s₂.vm := rfl
      rw [e2] at this
      exact this
    obtain ⟨c₂, i₂, len₂, hc₂, hd₂, hf₂⟩ := hend
    have hW' : U.WarmedH s₂.vm := hW₂
    have hcc : c₂ = c := by
      have h1 : s₂.code? g.method = U.code? g.method := by
        rw [State.code?_eq, State.code?_eq, hW'.alike.method?]
      exact Option.some.inj (hc₂.symm.trans (h1.trans h.code))
    subst hcc
    have hlen : len₂ = len := by rw [hdg] at hd₂; cases hd₂; rfl
    subst hlen
    have hs₂ : s₂ = (({ U with heap := s₂.heap, slotsUsed := s₂.slotsUsed } : State).setVm s₂.vm).setTop { g with pc := g.pc + len₂, stack := v.toList ++ g.stack } := by
      refine e3.trans ?_
      rw [hf₂, State.calling_eq h.top, State.setFrames_setFrames, State.setTop_of_frames _ hr', hr]
      rfl
    have hsame : U.sameButNew ({ U with heap := s₂.heap, slotsUsed := s₂.slotsUsed } : State) L mc ms := by
      refine ⟨?_, q2, q3, q4, q5, q6⟩
      obtain ⟨t, ht, -⟩ := State.frames_cons hr
      show ({ U with heap := s₂.heap, slotsUsed := s₂.slotsUsed } : State) = { U.setFrames U.frames with heap := s₂.heap, slotsUsed := s₂.slotsUsed }
      rw [State.setFrames_self ht]
    subst hg
    refine Or.inl ⟨v, ⟨(({ U with heap := s₂.heap, slotsUsed := s₂.slotsUsed } : State).setVm s₂.vm), Ls ++ L, c0 + mc, s0 + ms⟩,
      ⟨X.admits, X.cas, X.clock, X.frames, X.room, X.hears, X.method, X.code, (X.here.setHeapUsed s₂.heap s₂.slotsUsed).setVm hW'.alike, X.tail, State.WarmedH.trans X.warmed hW', X.limits, X.bytes, X.same.trans (hsame.setVm s.vm)⟩,
      ⟨g, mk, s₂, L, rfl, rfl, hqc, rfl, hL, rfl, rfl⟩, ?_⟩
    show Steps p.tables e below _ ((({ U with heap := s₂.heap, slotsUsed := s₂.slotsUsed } : State).setVm s₂.vm).setTop { g with pc := g.pc + len₂, stack := v.toList ++ g.stack })
    rw [← hs₂]
    exact hsteps
  · obtain ⟨e2, q2, q3, q4, q5, q6⟩ := id hsm
    have e3 : s₂ = ({ (U.calling g mk a).setFrames s₂.frames with heap := s₂.heap, slotsUsed := s₂.slotsUsed } : State).setVm s₂.vm := by
      have : s₂ = ({ s₂ with vm := (U.calling g mk a).vm } : State).setVm s₂.vm := rfl
      rw [e2] at this
      exact this
    have hf₂ : s₂.frames = .throwing q :: .java g :: U.frames.tail := hend
    have hW' : U.WarmedH s₂.vm := hW₂
    have hs₂ : s₂ = ((({ U with heap := s₂.heap, slotsUsed := s₂.slotsUsed } : State).setVm s₂.vm).setTop g).pushFrame (.throwing q) := by
      refine e3.trans ?_
      rw [hf₂, State.calling_eq h.top, State.setFrames_setFrames, State.pushFrame, State.frames_setTop _ hr', State.setTop_of_frames _ hr', State.setFrames_setFrames, hr]
      rfl
    have hsame : U.sameButNew ({ U with heap := s₂.heap, slotsUsed := s₂.slotsUsed } : State) L mc ms := by
      refine ⟨?_, q2, q3, q4, q5, q6⟩
      obtain ⟨t, ht, -⟩ := State.frames_cons hr
      show ({ U with heap := s₂.heap, slotsUsed := s₂.slotsUsed } : State) = { U.setFrames U.frames with heap := s₂.heap, slotsUsed := s₂.slotsUsed }
      rw [State.setFrames_self ht]
    subst hg
    refine Or.inr ⟨q, ⟨(({ U with heap := s₂.heap, slotsUsed := s₂.slotsUsed } : State).setVm s₂.vm), Ls ++ L, c0 + mc, s0 + ms⟩,
      ⟨X.admits, X.cas, X.clock, X.frames, X.room, X.hears, X.method, X.code, (X.here.setHeapUsed s₂.heap s₂.slotsUsed).setVm hW'.alike, X.tail, State.WarmedH.trans X.warmed hW', X.limits, X.bytes, X.same.trans (hsame.setVm s.vm)⟩,
      ⟨g, mk, s₂, L, E, ce, rfl, rfl, hx, hce, hcv, hcl, rfl, hL, rfl, rfl⟩, ?_⟩
    show Steps p.tables e below _ (((({ U with heap := s₂.heap, slotsUsed := s₂.slotsUsed } : State).setVm s₂.vm).setTop g).pushFrame (.throwing q))
    rw [← hs₂]
    exact hsteps
end
variable {p : Program} {l : Launch} {e : Env} {R : Room} {s : State} {m : MethodId} {args : Array Value} {below : List Frame} {meth : Method} {c : Code} {T : State} {H : Heap} {locs : List Loc} {cells slots : Nat}
theorem vx_callVX (X : Stand p l e R s m args below meth c T locs cells slots) (hexec : p.tables.exec = Jvm.exec) {own C : String} {index : Nat} {y : MethodName} {bytes : ByteArray} {maxL : Nat} {ret : Option FieldType} {hh : List (Nat × Nat × Nat × Nat)}
    (hown : s.vm.findClass own = some m.cls) (hlink : (Cond.methodLink own index y).before args s = true) (hinst : (Cond.instanceMethod y).before args s = true) (hsel : (Cond.selects C y y).before args s = true)
    (hcode : (Cond.codeWith y bytes maxL ret hh).before args s = true) (hy : y.cls ≠ "java/lang/invoke/MethodHandle" ∧ y.cls ≠ "java/lang/invoke/VarHandle")
    {W9 : Nat} {Pre : Pt → Array Value → Prop} {Post : Pt → Array Value → Option Value → Pt → Prop} {PostX : Pt → Array Value → Addr → Pt → Prop} (hK : vx_Back l R p e below s args y 3 W9 Pre Post PostX)
    {b : Addr} {cellB : Cell} (hcell : T.heap[b]? = some cellB) (hobj : cellB.vm.isStatics = false) (hcls : s.vm.findClass C = some cellB.cls)
    {g : JFrame} (hg : g.method = m) (hsize : g.locals.size = c.maxLocals) {argsL rest : List Value} (hlen : ∀ sig, parseMethodDescriptor y.desc = some sig → argsL.length = sig.parameters.length)
    (hstack : g.stack = argsL.reverse ++ .ref b :: rest) (hW : 2 * g.monitorRoom + (rest.map fun v => v.category).sum ≤ W9) (hdg : decode c.code g.pc = .ok (.invokevirtual index, 3))
    (hpre : ∀ vm₁, s.WarmedH vm₁ → Pre ⟨T.setVm vm₁, locs, cells, slots⟩ (Value.ref b :: argsL).toArray) :
    (∃ (v : Option Value) (vm₁ : Vm) (B : Pt), s.WarmedH vm₁ ∧ Stand p l e R s m args below meth c B.U B.locs B.cells B.slots ∧ Post ⟨T.setVm vm₁, locs, cells, slots⟩ (Value.ref b :: argsL).toArray v B ∧
      ∀ target, Steps p.tables e below (B.U.setTop { g with pc := g.pc + 3, stack := v.toList ++ rest }) target → Steps p.tables e below (T.setTop g) target) ∨
    (∃ (q : Addr) (vm₁ : Vm) (B : Pt), s.WarmedH vm₁ ∧ Stand p l e R s m args below meth c B.U B.locs B.cells B.slots ∧ PostX ⟨T.setVm vm₁, locs, cells, slots⟩ (Value.ref b :: argsL).toArray q B ∧
      Steps p.tables e below (T.setTop g) ((B.U.setTop { g with stack := rest }).pushFrame (.throwing q))) := by
  obtain ⟨mk, methM, hnamed, hmethM, hstM, habM⟩ := Cond.instanceMethod_spec hinst
  obtain ⟨m8, methM', cM, hn8, hmethM', -, -, -, -, -, -, hsigM⟩ := Cond.codeWith_spec hcode
  cases Option.some.inj (hn8.symm.trans hnamed)
  cases hmethM.symm.trans hmethM'
  obtain ⟨c2, r2, m2, q1, q2, q3, q4, kP, hkP, hkPi⟩ := Cond.selects_spec hsel
  cases hcls.symm.trans q1
  cases (State.methodFound?_of_named hnamed hy).symm.trans q2
  cases hnamed.symm.trans q3
  have hselP : selectMethod e.platform s.vm cellB.cls mk = .method mk := by rw [Launch.admits_selectMethod X.admits]; exact q4
  obtain ⟨vm₁, X₁, hstep₁⟩ := X.invokevirtual hexec hown hlink hnamed hmethM hstM hkP hkPi hy (a := b) (cell := cellB) hcell
    (fun z h => by rw [h] at hobj; cases hobj) hselP hmethM habM hkP hkPi (g := g) hg (argsL := argsL) (rest := rest) (hlen _ hsigM) hstack hdg
  rcases hK m meth c ⟨T.setVm vm₁, locs, cells, slots⟩ { g with stack := rest } (.invokevirtual index) mk (Value.ref b :: argsL).toArray X₁ hg hsize hdg hW (X₁.named hnamed) (hpre vm₁ X₁.warmed) with ⟨v, B, X', hpost, hsteps⟩ | ⟨q, B, X', hpost, hsteps⟩
  · exact Or.inl ⟨v, vm₁, B, X₁.warmed, X', hpost, fun target h => hstep₁ _ fun acts => by rw [doInvoke_state]; exact hsteps.trans h⟩
  · exact Or.inr ⟨q, vm₁, B, X₁.warmed, X', hpost, hstep₁ _ fun acts => by rw [doInvoke_state]; exact hsteps⟩
theorem vx_callSX (X : Stand p l e R s m args below meth c T locs cells slots) (hexec : p.tables.exec = Jvm.exec) {own : String} {index : Nat} {y : MethodName} {bytes : ByteArray} {maxL : Nat} {ret : Option FieldType} {hh : List (Nat × Nat × Nat × Nat)}
    (hown : s.vm.findClass own = some m.cls) (hlink : (Cond.methodLink own index y).before args s = true) (hstat : (Cond.static y).before args s = true) (hinit : (Cond.initialized y.cls).before args s = true)
    (hcode : (Cond.codeWith y bytes maxL ret hh).before args s = true) (hy : y.cls ≠ "java/lang/invoke/MethodHandle" ∧ y.cls ≠ "java/lang/invoke/VarHandle")
    {W9 : Nat} {Pre : Pt → Array Value → Prop} {Post : Pt → Array Value → Option Value → Pt → Prop} {PostX : Pt → Array Value → Addr → Pt → Prop} (hK : vx_Back l R p e below s args y 3 W9 Pre Post PostX)
    {g : JFrame} (hg : g.method = m) (hsize : g.locals.size = c.maxLocals) {argsL rest : List Value} (hlen : ∀ sig, parseMethodDescriptor y.desc = some sig → argsL.length = sig.parameters.length)
    (hstack : g.stack = argsL.reverse ++ rest) (hW : 2 * g.monitorRoom + (rest.map fun v => v.category).sum ≤ W9) (hdg : decode c.code g.pc = .ok (.invokestatic index, 3))
    (hpre : ∀ vm₁, s.WarmedH vm₁ → Pre ⟨T.setVm vm₁, locs, cells, slots⟩ argsL.toArray) :
    (∃ (v : Option Value) (vm₁ : Vm) (B : Pt), s.WarmedH vm₁ ∧ Stand p l e R s m args below meth c B.U B.locs B.cells B.slots ∧ Post ⟨T.setVm vm₁, locs, cells, slots⟩ argsL.toArray v B ∧
      ∀ target, Steps p.tables e below (B.U.setTop { g with pc := g.pc + 3, stack := v.toList ++ rest }) target → Steps p.tables e below (T.setTop g) target) ∨
    (∃ (q : Addr) (vm₁ : Vm) (B : Pt), s.WarmedH vm₁ ∧ Stand p l e R s m args below meth c B.U B.locs B.cells B.slots ∧ PostX ⟨T.setVm vm₁, locs, cells, slots⟩ argsL.toArray q B ∧
      Steps p.tables e below (T.setTop g) ((B.U.setTop { g with stack := rest }).pushFrame (.throwing q))) := by
  obtain ⟨mk, methM, cM, hnamed, hmethM, -, -, -, -, -, -, hsigM⟩ := Cond.codeWith_spec hcode
  have hstatic : methM.isStatic = true := Cond.static_spec hnamed hmethM hstat
  obtain ⟨kP, hkP, -⟩ := className_of_methodNamed hnamed
  have hinitP : kP.init = .initialized := Cond.initialized_spec (findClass_of_methodNamed hnamed) hkP hinit
  obtain ⟨vm₁, X₁, hstep₁⟩ := X.invokestatic hexec hown hlink hnamed hmethM hstatic hkP hinitP hy (g := g) hg (argsL := argsL) (rest := rest) (hlen _ hsigM) hstack hdg
  rcases hK m meth c ⟨T.setVm vm₁, locs, cells, slots⟩ { g with stack := rest } (.invokestatic index) mk argsL.toArray X₁ hg hsize hdg hW (X₁.named hnamed) (hpre vm₁ X₁.warmed) with ⟨v, B, X', hpost, hsteps⟩ | ⟨q, B, X', hpost, hsteps⟩
  · exact Or.inl ⟨v, vm₁, B, X₁.warmed, X', hpost, fun target h => hstep₁ _ fun acts => by rw [doInvoke_state]; exact hsteps.trans h⟩
  · exact Or.inr ⟨q, vm₁, B, X₁.warmed, X', hpost, hstep₁ _ fun acts => by rw [doInvoke_state]; exact hsteps⟩
theorem vx_callVW (X : Stand p l e R s m args below meth c T locs cells slots) (hexec : p.tables.exec = Jvm.exec) {own C : String} {index : Nat} {y : MethodName} {bytes : ByteArray} {maxL : Nat} {ret : Option FieldType} {hh : List (Nat × Nat × Nat × Nat)}
    (hown : s.vm.findClass own = some m.cls) (hlink : (Cond.methodLink own index y).before args s = true) (hinst : (Cond.instanceMethod y).before args s = true) (hsel : (Cond.selects C y y).before args s = true)
    (hcode : (Cond.codeWith y bytes maxL ret hh).before args s = true) (hy : y.cls ≠ "java/lang/invoke/MethodHandle" ∧ y.cls ≠ "java/lang/invoke/VarHandle")
    {W9 : Nat} {Pre : Pt → Array Value → Prop} {Post : Pt → Array Value → Option Value → Pt → Prop} (hK : Back l R p e below s args y 3 W9 Pre Post)
    {b : Addr} {cellB : Cell} (hcell : T.heap[b]? = some cellB) (hobj : cellB.vm.isStatics = false) (hcls : s.vm.findClass C = some cellB.cls)
    {g : JFrame} (hg : g.method = m) (hsize : g.locals.size = c.maxLocals) {argsL rest : List Value} (hlen : ∀ sig, parseMethodDescriptor y.desc = some sig → argsL.length = sig.parameters.length)
    (hstack : g.stack = argsL.reverse ++ .ref b :: rest) (hW : 2 * g.monitorRoom + (rest.map fun v => v.category).sum ≤ W9) (hdg : decode c.code g.pc = .ok (.invokevirtual index, 3))
    (hpre : ∀ vm₁, s.WarmedH vm₁ → Pre ⟨T.setVm vm₁, locs, cells, slots⟩ (Value.ref b :: argsL).toArray) :
    ∃ (v : Option Value) (vm₁ : Vm) (B : Pt), s.WarmedH vm₁ ∧ Stand p l e R s m args below meth c B.U B.locs B.cells B.slots ∧ Post ⟨T.setVm vm₁, locs, cells, slots⟩ (Value.ref b :: argsL).toArray v B ∧
      ∀ target, Steps p.tables e below (B.U.setTop { g with pc := g.pc + 3, stack := v.toList ++ rest }) target → Steps p.tables e below (T.setTop g) target := by
  obtain ⟨mk, methM, hnamed, hmethM, hstM, habM⟩ := Cond.instanceMethod_spec hinst
  obtain ⟨m8, methM', cM, hn8, hmethM', -, -, -, -, -, -, hsigM⟩ := Cond.codeWith_spec hcode
  cases Option.some.inj (hn8.symm.trans hnamed)
  cases hmethM.symm.trans hmethM'
  obtain ⟨c2, r2, m2, q1, q2, q3, q4, kP, hkP, hkPi⟩ := Cond.selects_spec hsel
  cases hcls.symm.trans q1
  cases (State.methodFound?_of_named hnamed hy).symm.trans q2
  cases hnamed.symm.trans q3
  have hselP : selectMethod e.platform s.vm cellB.cls mk = .method mk := by rw [Launch.admits_selectMethod X.admits]; exact q4
  obtain ⟨vm₁, X₁, hstep₁⟩ := X.invokevirtual hexec hown hlink hnamed hmethM hstM hkP hkPi hy (a := b) (cell := cellB) hcell
    (fun z h => by rw [h] at hobj; cases hobj) hselP hmethM habM hkP hkPi (g := g) hg (argsL := argsL) (rest := rest) (hlen _ hsigM) hstack hdg
  obtain ⟨v, B, X', hpost, hsteps⟩ := hK m meth c ⟨T.setVm vm₁, locs, cells, slots⟩ { g with stack := rest } (.invokevirtual index) mk (Value.ref b :: argsL).toArray X₁ hg hsize hdg hW (X₁.named hnamed) (hpre vm₁ X₁.warmed)
  exact ⟨v, vm₁, B, X₁.warmed, X', hpost, fun target h => hstep₁ _ fun acts => by rw [doInvoke_state]; exact hsteps.trans h⟩
abbrev vx_CVW (R : Room) (s : State) (args : Array Value) (own C : String) (index : Nat) (y : MethodName) (bytes : ByteArray) (maxL : Nat) (ret : Option FieldType) (hh : List (Nat × Nat × Nat × Nat)) (ws : List Cond) (rm : Room) (mc ms n : Nat) : Prop :=
  (rm.cells = mc ∧ rm.slots = ms ∧ rm.frames + 1 ≤ R.frames ∧ 8 + (maxL + 11) + rm.locals ≤ R.locals ∧ (∀ w ∈ ws, ∀ (a' : Array Value) (U : State), s.WarmedH U.vm → w.before a' U = true) ∧ Cond.codeWith y bytes maxL ret hh ∈ ws) ∧
  (Cond.codeWith y bytes maxL ret hh).before args s = true ∧ (Cond.initialized y.cls).before args s = true ∧ (y.cls ≠ "java/lang/invoke/MethodHandle" ∧ y.cls ≠ "java/lang/invoke/VarHandle") ∧
  (∀ sig, parseMethodDescriptor y.desc = some sig → n = sig.parameters.length) ∧ (Cond.methodLink own index y).before args s = true ∧ (Cond.instanceMethod y).before args s = true ∧ (Cond.selects C y y).before args s = true
theorem vx_cwVW {own C : String} {index maxL mc ms : Nat} {y : MethodName} {bytes : ByteArray} {ret : Option FieldType} {hh : List (Nat × Nat × Nat × Nat)} {Ts ws ws' : List Cond} {rm : Room} (n : Nat) (ht : ∀ w ∈ Ts, w.before args s = true) (hT : GoodIn Ts (wsV own index C y ws)) (hw : ws = Cond.codeWith y bytes maxL ret hh :: ws') (hrc : rm.cells = mc) (hrs : rm.slots = ms)
    (hd : y.cls = C ∧ y.cls ≠ "java/lang/invoke/MethodHandle" ∧ y.cls ≠ "java/lang/invoke/VarHandle" ∧ (parseMethodDescriptor y.desc).map (fun d => d.parameters.length) = some n) (hR : rm.frames + 1 ≤ R.frames ∧ 8 + (maxL + 11) + rm.locals ≤ R.locals) :
    vx_CVW R s args own C index y bytes maxL ret hh ws rm mc ms n := by
  obtain ⟨hC, hd⟩ := hd
  subst hC
  have ok : ∀ w ∈ wsV own index y.cls y ws, w.before args s = true := fun w h => ht w (hT w h).1
  have hG : GoodIn Ts ws := fun w h => hT w (by unfold wsV; exact List.mem_append_right _ h)
  have hc : Cond.codeWith y bytes maxL ret hh ∈ ws := by rw [hw]; exact List.mem_cons_self
  refine ⟨⟨hrc, hrs, hR.1, hR.2, pay_in ht hG, hc⟩, ht _ (hG _ hc).1, ok _ (by simp [wsV]), ⟨hd.1, hd.2.1⟩, fun sig h => ?_, ok _ (by simp [wsV]), ok _ (by simp [wsV]), ok _ (by simp [wsV])⟩
  have h2 := hd.2.2
  rw [h] at h2
  exact (Option.some.inj h2).symm
theorem vx_runVW {y : MethodName} {bytes cc : ByteArray} {maxL nL mc ms n index : Nat} {ret : Option FieldType} {hh : List (Nat × Nat × Nat × Nat)} {ws : List Cond} {rm : Room} {Pc : Array Value → State → Prop} {Qc : Array Value → State → Outcome → State → Prop} {free : Addr → Prop} {Ts : List Cond} {own C : String} {b : Addr} {As rest : List Value} {g : JFrame}
    (S : CallFix p m c cc nL s args Ts own) (hM : Met l y ws rm Pc Qc mc ms free) (cw : vx_CVW R s args own C index y bytes maxL ret hh ws rm mc ms n) (hp : PreV s H C b Pc As)
    (hg : g.method = m) (hn : As.length = n) (hsize : g.locals.size = nL) (hstack : g.stack = As.reverse ++ .ref b :: rest) (hW : 2 * g.monitorRoom + (rest.map fun v => v.category).sum ≤ 8) (hdg : decode cc g.pc = .ok (.invokevirtual index, 3)) (hf : cells + mc ≤ R.cells ∧ slots + ms ≤ R.slots) :
    va_Run p l e R s m args below meth c H locs cells slots mc ms g rest (Qc (Value.ref b :: As).toArray) free := by
  obtain ⟨⟨hrc, hrs, hfr, hlo, hws, hcw⟩, hcode, hini, hy, hlen, hl, hin, hse⟩ := cw
  have hK : Back l R p e below s args y 3 8 (PreOf R mc ms Pc) (PostOf Qc mc ms free) := va_backW (hh := hh) (bytes := bytes) (maxL := maxL) (ret := ret) hM hp.1 hrc hrs hfr hlo hws hcw (fun a' U hW => word_at hW (Or.inl (by first | rfl | simp [Cond.onTables, Cond.keeps, Cond.steady])) hini)
  obtain ⟨hx, hb, hml, ho, -⟩ := S
  obtain ⟨-, ⟨cellB, hcB, hoB, hclB⟩, hPc⟩ := hp
  intro T hT X
  obtain ⟨v, vm₁, ⟨U', l2, c2, s2⟩, hW₁, X', ⟨g', mk, t, L, e1, e2, hq, h1, hL, h2, h3⟩, st⟩ := vx_callVW X hx (C := C) (hh := hh) (bytes := bytes) (maxL := maxL) (ret := ret) ho hl hin hse hcode hy hK (by rw [hT]; exact hcB) hoB hclB hg (hsize.trans hml.symm) (argsL := As) (rest := rest) (fun sig h => hn.trans (hlen sig h)) hstack hW (by rw [hb]; exact hdg)
    (fun vm₁ hW₁ => ⟨hf.1, hf.2, hPc (T.setVm vm₁) hT hW₁⟩)
  dsimp only [Pt.U, Pt.locs, Pt.cells, Pt.slots] at X' e1 e2 h1 h2 h3 st
  subst h1; subst h2; subst h3
  exact ⟨v, (T.setVm vm₁).calling g' mk (Value.ref b :: As).toArray, t, U', L, hT, X', hL, e1, e2, hq, st⟩
section
variable {y : MethodName} {bytes cc : ByteArray} {maxL nL mc ms n index : Nat} {ret : Option FieldType} {ws : List Cond} {rm : Room} {Pc : Array Value → State → Prop} {Qc : Array Value → State → Outcome → State → Prop} {XC : String → State → State → Prop} {free : Addr → Prop} {Ts : List Cond} {own C : String} {b : Addr} {As rest : List Value} {g : JFrame}
theorem vx_runVX {hh : List (Nat × Nat × Nat × Nat)} (S : CallFix p m c cc nL s args Ts own) (hM : vx_Met l y ws rm Pc Qc XC mc ms free) (cw : vx_CVW R s args own C index y bytes maxL ret hh ws rm mc ms n) (hp : PreV s H C b Pc As)
    (hg : g.method = m) (hn : As.length = n) (hsize : g.locals.size = nL) (hstack : g.stack = As.reverse ++ .ref b :: rest) (hW : 2 * g.monitorRoom + (rest.map fun v => v.category).sum ≤ 8) (hdg : decode cc g.pc = .ok (.invokevirtual index, 3)) (hf : cells + mc ≤ R.cells ∧ slots + ms ≤ R.slots) :
    vx_Run p l e R s m args below meth c H locs cells slots mc ms g rest (Qc (Value.ref b :: As).toArray) XC free := by
  obtain ⟨⟨hrc, hrs, hfr, hlo, hws, hcw⟩, hcode, hini, hy, hlen, hl, hin, hse⟩ := cw
  have hK : vx_Back l R p e below s args y 3 8 (PreOf R mc ms Pc) (PostOf Qc mc ms free) (vx_Post XC mc ms free) := vx_backW (hh := hh) (bytes := bytes) (maxL := maxL) (ret := ret) hM hp.1 hrc hrs hfr hlo hws hcw (fun a' U hW => word_at hW (Or.inl (by first | rfl | simp [Cond.onTables, Cond.keeps, Cond.steady])) hini)
  obtain ⟨hx, hb, hml, ho, -⟩ := S
  obtain ⟨-, ⟨cellB, hcB, hoB, hclB⟩, hPc⟩ := hp
  intro T hT X
  rcases vx_callVX X hx (C := C) (hh := hh) (bytes := bytes) (maxL := maxL) (ret := ret) ho hl hin hse hcode hy hK (by rw [hT]; exact hcB) hoB hclB hg (hsize.trans hml.symm) (argsL := As) (rest := rest) (fun sig h => hn.trans (hlen sig h)) hstack hW (by rw [hb]; exact hdg)
    (fun vm₁ hW₁ => ⟨hf.1, hf.2, hPc (T.setVm vm₁) hT hW₁⟩) with ⟨v, vm₁, ⟨U', l2, c2, s2⟩, hW₁, X', ⟨g', mk, t, L, e1, e2, hq, h1, hL, h2, h3⟩, st⟩ | ⟨q, vm₁, ⟨U', l2, c2, s2⟩, hW₁, X', ⟨g', mk, t, L, E, ce, e1, e2, hq, hce, hcv, hcl, h1, hL, h2, h3⟩, st⟩
  · dsimp only [Pt.U, Pt.locs, Pt.cells, Pt.slots] at X' e1 e2 h1 h2 h3 st
    subst h1; subst h2; subst h3
    exact Or.inl ⟨v, (T.setVm vm₁).calling g' mk (Value.ref b :: As).toArray, t, U', L, hT, X', hL, e1, e2, hq, st⟩
  · dsimp only [Pt.U, Pt.locs, Pt.cells, Pt.slots] at X' e1 e2 h1 h2 h3 st hcl
    subst h1; subst h2; subst h3
    exact Or.inr ⟨q, (T.setVm vm₁).calling g' mk (Value.ref b :: As).toArray, t, U', L, E, ce, hT, X', hL, e1, e2, hq, hce, hcv, vx_cls hW₁ hcl, st⟩
theorem vx_runSX {hh : List (Nat × Nat × Nat × Nat)} (S : CallFix p m c cc nL s args Ts own) (hM : vx_Met l y ws rm Pc Qc XC mc ms free) (cw : vx_CSW R s args own index y bytes maxL ret hh ws rm mc ms n) (hp : PreS s H Pc As)
    (hg : g.method = m) (hn : As.length = n) (hsize : g.locals.size = nL) (hstack : g.stack = As.reverse ++ rest) (hW : 2 * g.monitorRoom + (rest.map fun v => v.category).sum ≤ 8) (hdg : decode cc g.pc = .ok (.invokestatic index, 3)) (hf : cells + mc ≤ R.cells ∧ slots + ms ≤ R.slots) :
    vx_Run p l e R s m args below meth c H locs cells slots mc ms g rest (Qc As.toArray) XC free := by
  obtain ⟨⟨hrc, hrs, hfr, hlo, hws, hcw⟩, hcode, hini, hy, hlen, hl, hstt⟩ := cw
  have hK : vx_Back l R p e below s args y 3 8 (PreOf R mc ms Pc) (PostOf Qc mc ms free) (vx_Post XC mc ms free) := vx_backW (hh := hh) (bytes := bytes) (maxL := maxL) (ret := ret) hM hp.1 hrc hrs hfr hlo hws hcw (fun a' U hW => word_at hW (Or.inl (by first | rfl | simp [Cond.onTables, Cond.keeps, Cond.steady])) hini)
  obtain ⟨hx, hb, hml, ho, -⟩ := S
  intro T hT X
  rcases vx_callSX X hx (hh := hh) (bytes := bytes) (maxL := maxL) (ret := ret) ho hl hstt hini hcode hy hK hg (hsize.trans hml.symm) (argsL := As) (rest := rest) (fun sig h => hn.trans (hlen sig h)) hstack hW (by rw [hb]; exact hdg)
    (fun vm₁ hW₁ => ⟨hf.1, hf.2, hp.2 (T.setVm vm₁) hT hW₁⟩) with ⟨v, vm₁, ⟨U', l2, c2, s2⟩, hW₁, X', ⟨g', mk, t, L, e1, e2, hq, h1, hL, h2, h3⟩, st⟩ | ⟨q, vm₁, ⟨U', l2, c2, s2⟩, hW₁, X', ⟨g', mk, t, L, E, ce, e1, e2, hq, hce, hcv, hcl, h1, hL, h2, h3⟩, st⟩
  · dsimp only [Pt.U, Pt.locs, Pt.cells, Pt.slots] at X' e1 e2 h1 h2 h3 st
    subst h1; subst h2; subst h3
    exact Or.inl ⟨v, (T.setVm vm₁).calling g' mk As.toArray, t, U', L, hT, X', hL, e1, e2, hq, st⟩
  · dsimp only [Pt.U, Pt.locs, Pt.cells, Pt.slots] at X' e1 e2 h1 h2 h3 st hcl
    subst h1; subst h2; subst h3
    exact Or.inr ⟨q, (T.setVm vm₁).calling g' mk As.toArray, t, U', L, E, ce, hT, X', hL, e1, e2, hq, hce, hcv, vx_cls hW₁ hcl, st⟩
end
end VXH
theorem vx_ofWH {l : Launch} {y : MethodName} {ws ws' : List Cond} {rm : Room} {Pc : Array Value → State → Prop} {Qc : Array Value → State → Outcome → State → Prop} {XC : String → State → State → Prop} {mc ms : Nat} {free : Addr → Prop} {cc : ByteArray} {maxL : Nat} {ret : Option FieldType} {hh : List (Nat × Nat × Nat × Nat)}
    (hy : plainName y.cls = true) (hw : ws = Cond.codeWith y cc maxL ret hh :: ws')
    (body : ∀ p e s m args below meth c s₁, BodyLoose p l y (headSpec ws rm) cc maxL ret e s m args below meth c s₁ → c.maxLocals = maxL → Pc args s →
      W p l e (headSpec ws rm).room s m args below meth c s.heap [] 0 0 (vx_MQ below Qc XC args s mc ms free) (entryFrame m args maxL)) : vx_Met l y ws rm Pc Qc XC mc ms free := by
  refine MetFree.of_bodyS (code := cc) (maxLocals := maxL) (ret := ret) hy ?_ ?_
  · intro args s m h hn
    obtain ⟨m9, meth, c, hn9, h1, h2, h3, h4, -, h5, h6, -⟩ := Cond.codeWith_spec (atoms_spec (ws := ws) h _ (by rw [hw]; exact List.mem_cons_self))
    cases hn.symm.trans hn9
    exact ⟨meth, c, h1, h2, h3, h4, h5, h6⟩
  · intro p e s m args below meth c s₁ B hml hP _
    have hh0 : s₁.heap = s.heap := by rw [B.state]; rfl
    obtain ⟨t, a1, o, b1, b2, b3⟩ := body p e s m args below meth c s₁ B hml hP s₁ hh0 (Stand.of_body B)
    exact ⟨t, o, a1, b1, b2, b3⟩
/-! ===== END ===== -/
end
section
/-! ===== BEGIN printed: names, fields, word lists, decode rows ===== -/
def RX0 : String := "PromiseMarket$Process"
def TX0 : u_T := fun k => match k with
  | 0 => ("PromiseMarket$Process", "money", "I", false)
  | 1 => ("PromiseMarket$Process", "backlog", "I", false)
  | 2 => ("PromiseMarket$Process", "bid", "I", false)
  | 3 => ("PromiseMarket$Process", "every", "I", false)
  | 4 => ("PromiseMarket$Process", "amount", "I", false)
  | 5 => ("PromiseMarket$Process", "usedTicks", "I", false)
  | 6 => ("PromiseMarket$Process", "boughtTicks", "I", false)
  | 7 => ("PromiseMarket$Process", "freeTicks", "I", false)
  | 8 => ("PromiseMarket$Process", "soldFor", "I", false)
  | 9 => ("PromiseMarket$Process", "boughtFor", "I", false)
  | _ => ("PromiseMarket$Process", "penalties", "I", false)
def tyX0 : Nat → FieldType := fun k => match k with
  | 0 => .int
  | 1 => .int
  | 2 => .int
  | 3 => .int
  | 4 => .int
  | 5 => .int
  | 6 => .int
  | 7 => .int
  | 8 => .int
  | 9 => .int
  | _ => .int
abbrev wsX00 : List Cond := u_ws RX0 TX0 11
theorem nmX0 : ∀ a, a < 11 → ∀ b, b < 11 → a ≠ b → (TX0 a).2.1 ≠ (TX0 b).2.1 := by decide +kernel
theorem tyX0_ok : ∀ k, k < 11 → parseFieldDescriptor (TX0 k).2.2.1 = some (tyX0 k) := by decide +kernel
abbrev cX0_init : ByteArray := prog_2_method_1_code
def yX0_init : MethodName := ⟨RX0, "<init>", "()V"⟩
abbrev cX0_begin : ByteArray := prog_2_method_2_code
def yX0_begin : MethodName := ⟨RX0, "begin", "(III)V"⟩
abbrev cX0_copyFrom : ByteArray := prog_2_method_3_code
def yX0_copyFrom : MethodName := ⟨RX0, "copyFrom", "(LPromiseMarket$Process;)V"⟩
abbrev cX0_earn : ByteArray := prog_2_method_4_code
def yX0_earn : MethodName := ⟨RX0, "earn", "(I)V"⟩
abbrev cX0_takeWork : ByteArray := prog_2_method_5_code
def yX0_takeWork : MethodName := ⟨RX0, "takeWork", "(I)V"⟩
abbrev cX0_arrive : ByteArray := prog_2_method_6_code
def yX0_arrive : MethodName := ⟨RX0, "arrive", "(I)V"⟩
abbrev cX0_canBuyTick : ByteArray := prog_2_method_7_code
def yX0_canBuyTick : MethodName := ⟨RX0, "canBuyTick", "()Z"⟩
abbrev cX0_figure : ByteArray := prog_2_method_8_code
def yX0_figure : MethodName := ⟨RX0, "figure", "(I)I"⟩
def RX1 : String := "PromiseMarket$Promise"
def TX1 : u_T := fun k => match k with
  | 0 => ("PromiseMarket$Promise", "ended", "Z", false)
  | 1 => ("PromiseMarket$Promise", "owner", "I", false)
  | 2 => ("PromiseMarket$Promise", "period", "I", false)
  | 3 => ("PromiseMarket$Promise", "budget", "I", false)
  | 4 => ("PromiseMarket$Promise", "deadline", "I", false)
  | 5 => ("PromiseMarket$Promise", "nextRelease", "I", false)
  | 6 => ("PromiseMarket$Promise", "left", "I", false)
  | 7 => ("PromiseMarket$Promise", "due", "I", false)
  | 8 => ("PromiseMarket$Promise", "holder", "I", false)
  | 9 => ("PromiseMarket$Promise", "price", "I", false)
  | 10 => ("PromiseMarket$Promise", "lessee", "I", false)
  | 11 => ("PromiseMarket$Promise", "jobsLeased", "I", false)
  | 12 => ("PromiseMarket$Promise", "usedTicks", "I", false)
  | 13 => ("PromiseMarket$Promise", "soldTicks", "I", false)
  | 14 => ("PromiseMarket$Promise", "wastedTicks", "I", false)
  | 15 => ("PromiseMarket$Promise", "releasedJobs", "I", false)
  | _ => ("PromiseMarket$Promise", "missedJobs", "I", false)
def tyX1 : Nat → FieldType := fun k => match k with
  | 0 => .boolean
  | 1 => .int
  | 2 => .int
  | 3 => .int
  | 4 => .int
  | 5 => .int
  | 6 => .int
  | 7 => .int
  | 8 => .int
  | 9 => .int
  | 10 => .int
  | 11 => .int
  | 12 => .int
  | 13 => .int
  | 14 => .int
  | 15 => .int
  | _ => .int
abbrev wsX10 : List Cond := u_ws RX1 TX1 17
theorem nmX1 : ∀ a, a < 17 → ∀ b, b < 17 → a ≠ b → (TX1 a).2.1 ≠ (TX1 b).2.1 := by decide +kernel
theorem tyX1_ok : ∀ k, k < 17 → parseFieldDescriptor (TX1 k).2.2.1 = some (tyX1 k) := by decide +kernel
abbrev cX1_init : ByteArray := prog_3_method_1_code
def yX1_init : MethodName := ⟨RX1, "<init>", "()V"⟩
abbrev cX1_begin : ByteArray := prog_3_method_2_code
def yX1_begin : MethodName := ⟨RX1, "begin", "(IIIII)V"⟩
abbrev cX1_copyFrom : ByteArray := prog_3_method_3_code
def yX1_copyFrom : MethodName := ⟨RX1, "copyFrom", "(LPromiseMarket$Promise;)V"⟩
abbrev cX1_releaseJob : ByteArray := prog_3_method_4_code
def yX1_releaseJob : MethodName := ⟨RX1, "releaseJob", "()V"⟩
abbrev cX1_missJob : ByteArray := prog_3_method_5_code
def yX1_missJob : MethodName := ⟨RX1, "missJob", "(I)Z"⟩
abbrev cX1_finish : ByteArray := prog_3_method_6_code
def yX1_finish : MethodName := ⟨RX1, "finish", "()I"⟩
abbrev cX1_giveRest : ByteArray := prog_3_method_7_code
def yX1_giveRest : MethodName := ⟨RX1, "giveRest", "(ILPromiseMarket$Promise;)V"⟩
abbrev cX1_ticksInCycle : ByteArray := prog_3_method_8_code
def yX1_ticksInCycle : MethodName := ⟨RX1, "ticksInCycle", "()I"⟩
abbrev cX1_share : ByteArray := prog_3_method_9_code
def yX1_share : MethodName := ⟨RX1, "share", "()D"⟩
abbrev cX1_demandIn : ByteArray := prog_3_method_10_code
def yX1_demandIn : MethodName := ⟨RX1, "demandIn", "(I)I"⟩
abbrev cX1_figure : ByteArray := prog_3_method_11_code
def yX1_figure : MethodName := ⟨RX1, "figure", "(II)I"⟩
def RX2 : String := "PromiseMarket$Sales"
def TX2 : u_T := fun k => match k with
  | 0 => ("PromiseMarket$Sales", "byPair", "[I", true)
  | 1 => ("PromiseMarket$Sales", "total", "I", false)
  | _ => ("PromiseMarket$Sales", "priceSum", "I", false)
def tyX2 : Nat → FieldType := fun k => match k with
  | 0 => .array .int
  | 1 => .int
  | _ => .int
abbrev wsX20 : List Cond := u_ws RX2 TX2 3
theorem nmX2 : ∀ a, a < 3 → ∀ b, b < 3 → a ≠ b → (TX2 a).2.1 ≠ (TX2 b).2.1 := by decide +kernel
theorem tyX2_ok : ∀ k, k < 3 → parseFieldDescriptor (TX2 k).2.2.1 = some (tyX2 k) := by decide +kernel
abbrev cX2_init : ByteArray := prog_4_method_1_code
def yX2_init : MethodName := ⟨RX2, "<init>", "()V"⟩
abbrev cX2_copyFrom : ByteArray := prog_4_method_3_code
def yX2_copyFrom : MethodName := ⟨RX2, "copyFrom", "(LPromiseMarket$Sales;)V"⟩
abbrev cX2_add : ByteArray := prog_4_method_4_code
def yX2_add : MethodName := ⟨RX2, "add", "(III)V"⟩
abbrev cX2_countBetween : ByteArray := prog_4_method_5_code
def yX2_countBetween : MethodName := ⟨RX2, "countBetween", "(II)I"⟩
abbrev cX2_countPairs : ByteArray := prog_4_method_6_code
def yX2_countPairs : MethodName := ⟨RX2, "countPairs", "()I"⟩
abbrev cX2_pairOf : ByteArray := prog_4_method_8_code
def yX2_pairOf : MethodName := ⟨RX2, "pairOf", "(II)I"⟩
def RX3 : String := "PromiseMarket$SetupText"
def TX3 : u_T := fun k => match k with
  | 0 => ("PromiseMarket$SetupText", "bytes", "[B", true)
  | 1 => ("PromiseMarket$SetupText", "length", "I", false)
  | 2 => ("PromiseMarket$SetupText", "target", "LPromiseMarket$State;", true)
  | 3 => ("PromiseMarket$SetupText", "trial", "LPromiseMarket$Timeline;", true)
  | 4 => ("PromiseMarket$SetupText", "error", "I", false)
  | 5 => ("PromiseMarket$SetupText", "errorStart", "I", false)
  | 6 => ("PromiseMarket$SetupText", "token", "LPromiseMarket$Token;", false)
  | 7 => ("PromiseMarket$SetupText", "start", "I", false)
  | 8 => ("PromiseMarket$SetupText", "behind", "I", false)
  | _ => ("PromiseMarket$SetupText", "value", "I", false)
def tyX3 : Nat → FieldType := fun k => match k with
  | 0 => .array .byte
  | 1 => .int
  | 2 => .object "PromiseMarket$State"
  | 3 => .object "PromiseMarket$Timeline"
  | 4 => .int
  | 5 => .int
  | 6 => .object "PromiseMarket$Token"
  | 7 => .int
  | 8 => .int
  | _ => .int
abbrev wsX30 : List Cond := u_ws RX3 TX3 10
theorem nmX3 : ∀ a, a < 10 → ∀ b, b < 10 → a ≠ b → (TX3 a).2.1 ≠ (TX3 b).2.1 := by decide +kernel
theorem tyX3_ok : ∀ k, k < 10 → parseFieldDescriptor (TX3 k).2.2.1 = some (tyX3 k) := by decide +kernel
abbrev cX3_init : ByteArray := prog_5_method_1_code
def yX3_init : MethodName := ⟨RX3, "<init>", "()V"⟩
def RX4 : String := "PromiseMarket$State"
def TX4 : u_T := fun k => match k with
  | 0 => ("PromiseMarket$State", "timeline", "LPromiseMarket$Timeline;", true)
  | 1 => ("PromiseMarket$State", "processes", "[LPromiseMarket$Process;", true)
  | 2 => ("PromiseMarket$State", "sold", "LPromiseMarket$Sales;", true)
  | 3 => ("PromiseMarket$State", "processCount", "I", false)
  | 4 => ("PromiseMarket$State", "penalty", "I", false)
  | 5 => ("PromiseMarket$State", "fee", "I", false)
  | 6 => ("PromiseMarket$State", "bankMoney", "J", false)
  | 7 => ("PromiseMarket$State", "latestFree", "I", false)
  | 8 => ("PromiseMarket$State", "usedTicks", "I", false)
  | 9 => ("PromiseMarket$State", "soldTicks", "I", false)
  | 10 => ("PromiseMarket$State", "wastedTicks", "I", false)
  | 11 => ("PromiseMarket$State", "freeTicks", "I", false)
  | 12 => ("PromiseMarket$State", "idleTicks", "I", false)
  | _ => ("PromiseMarket$State", "missedJobs", "I", false)
def tyX4 : Nat → FieldType := fun k => match k with
  | 0 => .object "PromiseMarket$Timeline"
  | 1 => .array (.object "PromiseMarket$Process")
  | 2 => .object "PromiseMarket$Sales"
  | 3 => .int
  | 4 => .int
  | 5 => .int
  | 6 => .long
  | 7 => .int
  | 8 => .int
  | 9 => .int
  | 10 => .int
  | 11 => .int
  | 12 => .int
  | _ => .int
abbrev wsX40 : List Cond := u_ws RX4 TX4 14
theorem nmX4 : ∀ a, a < 14 → ∀ b, b < 14 → a ≠ b → (TX4 a).2.1 ≠ (TX4 b).2.1 := by decide +kernel
theorem tyX4_ok : ∀ k, k < 14 → parseFieldDescriptor (TX4 k).2.2.1 = some (tyX4 k) := by decide +kernel
abbrev cX4_init : ByteArray := prog_6_method_1_code
def yX4_init : MethodName := ⟨RX4, "<init>", "()V"⟩
abbrev cX4_copyFrom : ByteArray := prog_6_method_3_code
def yX4_copyFrom : MethodName := ⟨RX4, "copyFrom", "(LPromiseMarket$State;)V"⟩
abbrev cX4_knownProcess : ByteArray := prog_6_method_4_code
def yX4_knownProcess : MethodName := ⟨RX4, "knownProcess", "(I)LPromiseMarket$Process;"⟩
abbrev cX4_enter : ByteArray := prog_6_method_5_code
def yX4_enter : MethodName := ⟨RX4, "enter", "(III)V"⟩
abbrev cX4_figure : ByteArray := prog_6_method_6_code
def yX4_figure : MethodName := ⟨RX4, "figure", "(I)I"⟩
abbrev cX4_canBuy : ByteArray := prog_6_method_7_code
def yX4_canBuy : MethodName := ⟨RX4, "canBuy", "(LPromiseMarket$Promise;I)Z"⟩
abbrev cX4_sell : ByteArray := prog_6_method_8_code
def yX4_sell : MethodName := ⟨RX4, "sell", "(LPromiseMarket$Promise;I)V"⟩
abbrev cX4_cheapestFor : ByteArray := prog_6_method_9_code
def yX4_cheapestFor : MethodName := ⟨RX4, "cheapestFor", "(I)I"⟩
abbrev cX4_isCheaper : ByteArray := prog_6_method_10_code
def yX4_isCheaper : MethodName := ⟨RX4, "isCheaper", "(LPromiseMarket$Promise;LPromiseMarket$Promise;)Z"⟩
abbrev cX4_pass : ByteArray := prog_6_method_11_code
def yX4_pass : MethodName := ⟨RX4, "pass", "(I)V"⟩
abbrev cX4_passTick : ByteArray := prog_6_method_12_code
def yX4_passTick : MethodName := ⟨RX4, "passTick", "()V"⟩
abbrev cX4_giveTickOf : ByteArray := prog_6_method_13_code
def yX4_giveTickOf : MethodName := ⟨RX4, "giveTickOf", "(LPromiseMarket$Promise;)V"⟩
abbrev cX4_highestBidder : ByteArray := prog_6_method_14_code
def yX4_highestBidder : MethodName := ⟨RX4, "highestBidder", "()LPromiseMarket$Process;"⟩
abbrev cX4_sellTick : ByteArray := prog_6_method_15_code
def yX4_sellTick : MethodName := ⟨RX4, "sellTick", "(LPromiseMarket$Process;LPromiseMarket$Process;)V"⟩
abbrev cX4_payPenalty : ByteArray := prog_6_method_16_code
def yX4_payPenalty : MethodName := ⟨RX4, "payPenalty", "(LPromiseMarket$Process;)V"⟩
abbrev cX4_giveFreeTick : ByteArray := prog_6_method_17_code
def yX4_giveFreeTick : MethodName := ⟨RX4, "giveFreeTick", "()V"⟩
abbrev cX4_nextWithBacklog : ByteArray := prog_6_method_18_code
def yX4_nextWithBacklog : MethodName := ⟨RX4, "nextWithBacklog", "()I"⟩
def RX5 : String := "PromiseMarket$Timeline"
def TX5 : u_T := fun k => match k with
  | 0 => ("PromiseMarket$Timeline", "promises", "[LPromiseMarket$Promise;", true)
  | 1 => ("PromiseMarket$Timeline", "promiseCount", "I", false)
  | _ => ("PromiseMarket$Timeline", "time", "I", false)
def tyX5 : Nat → FieldType := fun k => match k with
  | 0 => .array (.object "PromiseMarket$Promise")
  | 1 => .int
  | _ => .int
abbrev wsX50 : List Cond := u_ws RX5 TX5 3
theorem nmX5 : ∀ a, a < 3 → ∀ b, b < 3 → a ≠ b → (TX5 a).2.1 ≠ (TX5 b).2.1 := by decide +kernel
theorem tyX5_ok : ∀ k, k < 3 → parseFieldDescriptor (TX5 k).2.2.1 = some (tyX5 k) := by decide +kernel
abbrev cX5_init : ByteArray := prog_7_method_1_code
def yX5_init : MethodName := ⟨RX5, "<init>", "()V"⟩
abbrev cX5_copyFrom : ByteArray := prog_7_method_3_code
def yX5_copyFrom : MethodName := ⟨RX5, "copyFrom", "(LPromiseMarket$Timeline;)V"⟩
abbrev cX5_knownPromise : ByteArray := prog_7_method_4_code
def yX5_knownPromise : MethodName := ⟨RX5, "knownPromise", "(I)LPromiseMarket$Promise;"⟩
abbrev cX5_add : ByteArray := prog_7_method_5_code
def yX5_add : MethodName := ⟨RX5, "add", "(IIII)V"⟩
abbrev cX5_divide : ByteArray := prog_7_method_6_code
def yX5_divide : MethodName := ⟨RX5, "divide", "(LPromiseMarket$Promise;I)V"⟩
abbrev cX5_countOwnedBy : ByteArray := prog_7_method_7_code
def yX5_countOwnedBy : MethodName := ⟨RX5, "countOwnedBy", "(I)I"⟩
abbrev cX5_countNotEnded : ByteArray := prog_7_method_8_code
def yX5_countNotEnded : MethodName := ⟨RX5, "countNotEnded", "()I"⟩
abbrev cX5_releaseJobs : ByteArray := prog_7_method_9_code
def yX5_releaseJobs : MethodName := ⟨RX5, "releaseJobs", "()V"⟩
abbrev cX5_chooseJob : ByteArray := prog_7_method_10_code
def yX5_chooseJob : MethodName := ⟨RX5, "chooseJob", "()LPromiseMarket$Promise;"⟩
abbrev cX5_growTime : ByteArray := prog_7_method_11_code
def yX5_growTime : MethodName := ⟨RX5, "growTime", "()I"⟩
abbrev cX5_passTick : ByteArray := prog_7_method_12_code
def yX5_passTick : MethodName := ⟨RX5, "passTick", "()V"⟩
abbrev cX5_accepts : ByteArray := prog_7_method_13_code
def yX5_accepts : MethodName := ⟨RX5, "accepts", "(LPromiseMarket$Timeline;III)Z"⟩
abbrev cX5_ticksInCycle : ByteArray := prog_7_method_14_code
def yX5_ticksInCycle : MethodName := ⟨RX5, "ticksInCycle", "()I"⟩
abbrev cX5_passFreeTicks : ByteArray := prog_7_method_15_code
def yX5_passFreeTicks : MethodName := ⟨RX5, "passFreeTicks", "()I"⟩
abbrev cX5_demandIn : ByteArray := prog_7_method_16_code
def yX5_demandIn : MethodName := ⟨RX5, "demandIn", "(I)I"⟩
abbrev cX5_tightestTicks : ByteArray := prog_7_method_17_code
def yX5_tightestTicks : MethodName := ⟨RX5, "tightestTicks", "()I"⟩
abbrev cX5_sumOfShares : ByteArray := prog_7_method_18_code
def yX5_sumOfShares : MethodName := ⟨RX5, "sumOfShares", "()D"⟩
def RX6 : String := "PromiseMarket$Token"
def TX6 : u_T := fun k => match k with
  | _ => ("", "", "", false)
def tyX6 : Nat → FieldType := fun k => match k with
  | _ => .int
abbrev wsX60 : List Cond := u_ws RX6 TX6 0
theorem nmX6 : ∀ a, a < 0 → ∀ b, b < 0 → a ≠ b → (TX6 a).2.1 ≠ (TX6 b).2.1 := by decide +kernel
theorem tyX6_ok : ∀ k, k < 0 → parseFieldDescriptor (TX6 k).2.2.1 = some (tyX6 k) := by decide +kernel
def RX7 : String := "PromiseMarket"
def TX7 : u_T := fun k => match k with
  | 0 => ("PromiseMarket", "now", "LPromiseMarket$State;", true)
  | 1 => ("PromiseMarket", "forecast", "LPromiseMarket$State;", true)
  | 2 => ("PromiseMarket", "saved", "[LPromiseMarket$State;", true)
  | 3 => ("PromiseMarket", "isSaved", "[Z", true)
  | 4 => ("PromiseMarket", "trial", "LPromiseMarket$Timeline;", true)
  | 5 => ("PromiseMarket", "later", "LPromiseMarket$Timeline;", true)
  | _ => ("PromiseMarket", "text", "LPromiseMarket$SetupText;", true)
def tyX7 : Nat → FieldType := fun k => match k with
  | 0 => .object "PromiseMarket$State"
  | 1 => .object "PromiseMarket$State"
  | 2 => .array (.object "PromiseMarket$State")
  | 3 => .array .boolean
  | 4 => .object "PromiseMarket$Timeline"
  | 5 => .object "PromiseMarket$Timeline"
  | _ => .object "PromiseMarket$SetupText"
abbrev wsX70 : List Cond := u_ws RX7 TX7 7
theorem nmX7 : ∀ a, a < 7 → ∀ b, b < 7 → a ≠ b → (TX7 a).2.1 ≠ (TX7 b).2.1 := by decide +kernel
theorem tyX7_ok : ∀ k, k < 7 → parseFieldDescriptor (TX7 k).2.2.1 = some (tyX7 k) := by decide +kernel
abbrev cX7_init : ByteArray := prog_1_method_1_code
def yX7_init : MethodName := ⟨RX7, "<init>", "()V"⟩
abbrev cX7_addProcess : ByteArray := prog_1_method_2_code
def yX7_addProcess : MethodName := ⟨RX7, "addProcess", "(III)I"⟩
abbrev cX7_setBid : ByteArray := prog_1_method_3_code
def yX7_setBid : MethodName := ⟨RX7, "setBid", "(II)I"⟩
abbrev cX7_setArrival : ByteArray := prog_1_method_4_code
def yX7_setArrival : MethodName := ⟨RX7, "setArrival", "(III)V"⟩
abbrev cX7_addWork : ByteArray := prog_1_method_5_code
def yX7_addWork : MethodName := ⟨RX7, "addWork", "(II)I"⟩
abbrev cX7_process : ByteArray := prog_1_method_7_code
def yX7_process : MethodName := ⟨RX7, "process", "(II)I"⟩
abbrev cX7_promise : ByteArray := prog_1_method_8_code
def yX7_promise : MethodName := ⟨RX7, "promise", "(IIII)I"⟩
abbrev cX7_canAccept : ByteArray := prog_1_method_9_code
def yX7_canAccept : MethodName := ⟨RX7, "canAccept", "(III)Z"⟩
abbrev cX7_greatestBudget : ByteArray := prog_1_method_10_code
def yX7_greatestBudget : MethodName := ⟨RX7, "greatestBudget", "(II)I"⟩
abbrev cX7_waitFor : ByteArray := prog_1_method_11_code
def yX7_waitFor : MethodName := ⟨RX7, "waitFor", "(III)I"⟩
abbrev cX7_end : ByteArray := prog_1_method_12_code
def yX7_end : MethodName := ⟨RX7, "end", "(I)I"⟩
abbrev cX7_split : ByteArray := prog_1_method_13_code
def yX7_split : MethodName := ⟨RX7, "split", "(II)I"⟩
abbrev cX7_told : ByteArray := prog_1_method_14_code
def yX7_told : MethodName := ⟨RX7, "told", "(II)I"⟩
abbrev cX7_demand : ByteArray := prog_1_method_15_code
def yX7_demand : MethodName := ⟨RX7, "demand", "(I)I"⟩
abbrev cX7_isBounded : ByteArray := prog_1_method_17_code
def yX7_isBounded : MethodName := ⟨RX7, "isBounded", "(III)Z"⟩
abbrev cX7_load : ByteArray := prog_1_method_18_code
def yX7_load : MethodName := ⟨RX7, "load", "()D"⟩
abbrev cX7_spare : ByteArray := prog_1_method_19_code
def yX7_spare : MethodName := ⟨RX7, "spare", "()I"⟩
abbrev cX7_ask : ByteArray := prog_1_method_20_code
def yX7_ask : MethodName := ⟨RX7, "ask", "(II)I"⟩
abbrev cX7_buy : ByteArray := prog_1_method_21_code
def yX7_buy : MethodName := ⟨RX7, "buy", "(II)I"⟩
abbrev cX7_buyCheapest : ByteArray := prog_1_method_22_code
def yX7_buyCheapest : MethodName := ⟨RX7, "buyCheapest", "(I)I"⟩
abbrev cX7_lease : ByteArray := prog_1_method_23_code
def yX7_lease : MethodName := ⟨RX7, "lease", "(IIII)I"⟩
abbrev cX7_sales : ByteArray := prog_1_method_24_code
def yX7_sales : MethodName := ⟨RX7, "sales", "(II)I"⟩
abbrev cX7_partners : ByteArray := prog_1_method_25_code
def yX7_partners : MethodName := ⟨RX7, "partners", "()I"⟩
abbrev cX7_setRules : ByteArray := prog_1_method_27_code
def yX7_setRules : MethodName := ⟨RX7, "setRules", "(II)V"⟩
abbrev cX7_count : ByteArray := prog_1_method_28_code
def yX7_count : MethodName := ⟨RX7, "count", "(I)I"⟩
abbrev cX7_bank : ByteArray := prog_1_method_29_code
def yX7_bank : MethodName := ⟨RX7, "bank", "()J"⟩
abbrev cX7_run : ByteArray := prog_1_method_30_code
def yX7_run : MethodName := ⟨RX7, "run", "(I)I"⟩
abbrev cX7_ticksToFinish : ByteArray := prog_1_method_31_code
def yX7_ticksToFinish : MethodName := ⟨RX7, "ticksToFinish", "(II)I"⟩
abbrev cX7_moneyAfter : ByteArray := prog_1_method_32_code
def yX7_moneyAfter : MethodName := ⟨RX7, "moneyAfter", "(II)I"⟩
abbrev cX7_bestBid : ByteArray := prog_1_method_33_code
def yX7_bestBid : MethodName := ⟨RX7, "bestBid", "(II)I"⟩
abbrev cX7_save : ByteArray := prog_1_method_39_code
def yX7_save : MethodName := ⟨RX7, "save", "(I)V"⟩
abbrev cX7_restore : ByteArray := prog_1_method_40_code
def yX7_restore : MethodName := ⟨RX7, "restore", "(I)V"⟩
abbrev cX7_checkArgument : ByteArray := prog_1_method_41_code
def yX7_checkArgument : MethodName := ⟨RX7, "checkArgument", "(Z)V"⟩
abbrev cX7_checkState : ByteArray := prog_1_method_42_code
def yX7_checkState : MethodName := ⟨RX7, "checkState", "(Z)V"⟩
abbrev cX7_checkRange : ByteArray := prog_1_method_43_code
def yX7_checkRange : MethodName := ⟨RX7, "checkRange", "(III)V"⟩
abbrev cX7_checkPromise : ByteArray := prog_1_method_44_code
def yX7_checkPromise : MethodName := ⟨RX7, "checkPromise", "(III)V"⟩
abbrev cX7_isWithin : ByteArray := prog_1_method_45_code
def yX7_isWithin : MethodName := ⟨RX7, "isWithin", "(III)Z"⟩
abbrev cX7_isPeriod : ByteArray := prog_1_method_46_code
def yX7_isPeriod : MethodName := ⟨RX7, "isPeriod", "(I)Z"⟩
def RX8 : String := "PromiseMarketModel"
def TX8 : u_T := fun k => match k with
  | _ => ("", "", "", false)
def tyX8 : Nat → FieldType := fun k => match k with
  | _ => .int
abbrev wsX80 : List Cond := u_ws RX8 TX8 0
theorem nmX8 : ∀ a, a < 0 → ∀ b, b < 0 → a ≠ b → (TX8 a).2.1 ≠ (TX8 b).2.1 := by decide +kernel
theorem tyX8_ok : ∀ k, k < 0 → parseFieldDescriptor (TX8 k).2.2.1 = some (tyX8 k) := by decide +kernel
def RJx29ce0 : String := "java/lang/Enum"
def TJx29ce0 : u_T := fun k => match k with
  | _ => ("", "", "", false)
def tyJx29ce0 : Nat → FieldType := fun k => match k with
  | _ => .int
abbrev wsJx29ce00 : List Cond := u_ws RJx29ce0 TJx29ce0 0
theorem nmJx29ce0 : ∀ a, a < 0 → ∀ b, b < 0 → a ≠ b → (TJx29ce0 a).2.1 ≠ (TJx29ce0 b).2.1 := by decide +kernel
theorem tyJx29ce0_ok : ∀ k, k < 0 → parseFieldDescriptor (TJx29ce0 k).2.2.1 = some (tyJx29ce0 k) := by decide +kernel
def RJ9 : String := "java/lang/Math"
def TJ9 : u_T := fun k => match k with
  | _ => ("", "", "", false)
def tyJ9 : Nat → FieldType := fun k => match k with
  | _ => .int
abbrev wsJ90 : List Cond := u_ws RJ9 TJ9 0
theorem nmJ9 : ∀ a, a < 0 → ∀ b, b < 0 → a ≠ b → (TJ9 a).2.1 ≠ (TJ9 b).2.1 := by decide +kernel
theorem tyJ9_ok : ∀ k, k < 0 → parseFieldDescriptor (TJ9 k).2.2.1 = some (tyJ9 k) := by decide +kernel
abbrev cJ9_max_7cf53 : ByteArray := prog_16_method_65_code
def yJ9_max_7cf53 : MethodName := ⟨RJ9, "max", "(II)I"⟩
abbrev cJ9_min_7cf53 : ByteArray := prog_16_method_69_code
def yJ9_min_7cf53 : MethodName := ⟨RJ9, "min", "(II)I"⟩
def RJ0 : String := "java/lang/String"
def TJ0 : u_T := fun k => match k with
  | _ => ("", "", "", false)
def tyJ0 : Nat → FieldType := fun k => match k with
  | _ => .int
abbrev wsJ00 : List Cond := u_ws RJ0 TJ0 0
theorem nmJ0 : ∀ a, a < 0 → ∀ b, b < 0 → a ≠ b → (TJ0 a).2.1 ≠ (TJ0 b).2.1 := by decide +kernel
theorem tyJ0_ok : ∀ k, k < 0 → parseFieldDescriptor (TJ0 k).2.2.1 = some (tyJ0 k) := by decide +kernel
def RJ10 : String := "java/lang/System"
def TJ10 : u_T := fun k => match k with
  | _ => ("", "", "", false)
def tyJ10 : Nat → FieldType := fun k => match k with
  | _ => .int
abbrev wsJ100 : List Cond := u_ws RJ10 TJ10 0
theorem nmJ10 : ∀ a, a < 0 → ∀ b, b < 0 → a ≠ b → (TJ10 a).2.1 ≠ (TJ10 b).2.1 := by decide +kernel
theorem tyJ10_ok : ∀ k, k < 0 → parseFieldDescriptor (TJ10 k).2.2.1 = some (tyJ10 k) := by decide +kernel
def RL : String := "PromiseMarketLaw"
def TL : u_T := fun k => match k with
  | 0 => ("PromiseMarketLaw", "x", "LPromiseMarket;", true)
  | 1 => ("PromiseMarketLaw", "ints", "[I", false)
  | 2 => ("PromiseMarketLaw", "next", "I", false)
  | 3 => ("PromiseMarketLaw", "periods", "[I", true)
  | _ => ("PromiseMarketLaw", "work", "[I", true)
def tyL : Nat → FieldType := fun k => match k with
  | 0 => .object "PromiseMarket"
  | 1 => .array .int
  | 2 => .int
  | 3 => .array .int
  | _ => .array .int
abbrev wsL0 : List Cond := u_ws RL TL 5
theorem nmL : ∀ a, a < 5 → ∀ b, b < 5 → a ≠ b → (TL a).2.1 ≠ (TL b).2.1 := by decide +kernel
theorem tyL_ok : ∀ k, k < 5 → parseFieldDescriptor (TL k).2.2.1 = some (tyL k) := by decide +kernel
abbrev cL_init : ByteArray := method_1_code
def yL_init : MethodName := ⟨RL, "<init>", "()V"⟩
abbrev cL_at : ByteArray := method_2_code
def yL_at : MethodName := ⟨RL, "at", "([II)I"⟩
abbrev cL_draw : ByteArray := method_3_code
def yL_draw : MethodName := ⟨RL, "draw", "(I)I"⟩
abbrev cL_addProcess : ByteArray := method_4_code
def yL_addProcess : MethodName := ⟨RL, "addProcess", "(LPromiseMarket;III)I"⟩
abbrev cL_setBid : ByteArray := method_5_code
def yL_setBid : MethodName := ⟨RL, "setBid", "(LPromiseMarket;II)I"⟩
abbrev cL_setArrival : ByteArray := method_6_code
def yL_setArrival : MethodName := ⟨RL, "setArrival", "(LPromiseMarket;III)I"⟩
abbrev cL_addWork : ByteArray := method_7_code
def yL_addWork : MethodName := ⟨RL, "addWork", "(LPromiseMarket;II)I"⟩
abbrev cL_process : ByteArray := method_9_code
def yL_process : MethodName := ⟨RL, "process", "(LPromiseMarket;II)I"⟩
abbrev cL_promise : ByteArray := method_10_code
def yL_promise : MethodName := ⟨RL, "promise", "(LPromiseMarket;IIII)I"⟩
abbrev cL_canAccept : ByteArray := method_11_code
def yL_canAccept : MethodName := ⟨RL, "canAccept", "(LPromiseMarket;III)I"⟩
abbrev cL_greatestBudget : ByteArray := method_12_code
def yL_greatestBudget : MethodName := ⟨RL, "greatestBudget", "(LPromiseMarket;II)I"⟩
abbrev cL_waitFor : ByteArray := method_13_code
def yL_waitFor : MethodName := ⟨RL, "waitFor", "(LPromiseMarket;III)I"⟩
abbrev cL_end : ByteArray := method_14_code
def yL_end : MethodName := ⟨RL, "end", "(LPromiseMarket;I)I"⟩
abbrev cL_split : ByteArray := method_15_code
def yL_split : MethodName := ⟨RL, "split", "(LPromiseMarket;II)I"⟩
abbrev cL_told : ByteArray := method_16_code
def yL_told : MethodName := ⟨RL, "told", "(LPromiseMarket;II)I"⟩
abbrev cL_demand : ByteArray := method_17_code
def yL_demand : MethodName := ⟨RL, "demand", "(LPromiseMarket;I)I"⟩
abbrev cL_isBounded : ByteArray := method_18_code
def yL_isBounded : MethodName := ⟨RL, "isBounded", "(LPromiseMarket;III)I"⟩
abbrev cL_ask : ByteArray := method_19_code
def yL_ask : MethodName := ⟨RL, "ask", "(LPromiseMarket;II)I"⟩
abbrev cL_buy : ByteArray := method_20_code
def yL_buy : MethodName := ⟨RL, "buy", "(LPromiseMarket;II)I"⟩
abbrev cL_buyCheapest : ByteArray := method_21_code
def yL_buyCheapest : MethodName := ⟨RL, "buyCheapest", "(LPromiseMarket;I)I"⟩
abbrev cL_lease : ByteArray := method_22_code
def yL_lease : MethodName := ⟨RL, "lease", "(LPromiseMarket;IIII)I"⟩
abbrev cL_sales : ByteArray := method_23_code
def yL_sales : MethodName := ⟨RL, "sales", "(LPromiseMarket;II)I"⟩
abbrev cL_setRules : ByteArray := method_24_code
def yL_setRules : MethodName := ⟨RL, "setRules", "(LPromiseMarket;II)I"⟩
abbrev cL_count : ByteArray := method_25_code
def yL_count : MethodName := ⟨RL, "count", "(LPromiseMarket;I)I"⟩
abbrev cL_run : ByteArray := method_26_code
def yL_run : MethodName := ⟨RL, "run", "(LPromiseMarket;I)I"⟩
abbrev cL_ticksToFinish : ByteArray := method_27_code
def yL_ticksToFinish : MethodName := ⟨RL, "ticksToFinish", "(LPromiseMarket;II)I"⟩
abbrev cL_moneyAfter : ByteArray := method_28_code
def yL_moneyAfter : MethodName := ⟨RL, "moneyAfter", "(LPromiseMarket;II)I"⟩
abbrev cL_bestBid : ByteArray := method_29_code
def yL_bestBid : MethodName := ⟨RL, "bestBid", "(LPromiseMarket;II)I"⟩
abbrev cL_save : ByteArray := method_30_code
def yL_save : MethodName := ⟨RL, "save", "(LPromiseMarket;I)I"⟩
abbrev cL_restore : ByteArray := method_31_code
def yL_restore : MethodName := ⟨RL, "restore", "(LPromiseMarket;I)I"⟩
abbrev cL_money : ByteArray := method_32_code
def yL_money : MethodName := ⟨RL, "money", "()J"⟩
abbrev cL_builds : ByteArray := method_33_code
def yL_builds : MethodName := ⟨RL, "builds", "()Z"⟩
abbrev cL_vows : ByteArray := method_34_code
def yL_vows : MethodName := ⟨RL, "vows", "()Z"⟩
abbrev cL_trades : ByteArray := method_35_code
def yL_trades : MethodName := ⟨RL, "trades", "()Z"⟩
abbrev cL_ticks : ByteArray := method_36_code
def yL_ticks : MethodName := ⟨RL, "ticks", "()Z"⟩
abbrev cL_jobs : ByteArray := method_37_code
def yL_jobs : MethodName := ⟨RL, "jobs", "()Z"⟩
abbrev cL_sums : ByteArray := method_38_code
def yL_sums : MethodName := ⟨RL, "sums", "()Z"⟩
abbrev cL_foretells : ByteArray := method_39_code
def yL_foretells : MethodName := ⟨RL, "foretells", "()Z"⟩
abbrev cL_law : ByteArray := code
def yL_law : MethodName := ⟨RL, "law", "([I)Z"⟩
abbrev cL_holds : ByteArray := method_41_code
def yL_holds : MethodName := ⟨RL, "holds", "([I)Z"⟩
abbrev vwCl : List vw_C := [(RX0, TX0, 11), (RX1, TX1, 17), (RX2, TX2, 3), (RX3, TX3, 10), (RX4, TX4, 14), (RX5, TX5, 3), (RX7, TX7, 7), (RL, TL, 5)]
end
section
/-! THE ABSTRACT MACHINE: values, store, world; X: from here the method comes to its end -/
abbrev xV : Type := (Int ⊕ Int) ⊕ ((Nat × Nat) ⊕ Value)
abbrev xi (a : Int) : xV := Sum.inl (Sum.inl a)
abbrev xl (a : Int) : xV := Sum.inl (Sum.inr a)
abbrev xp (k j : Nat) : xV := Sum.inr (Sum.inl (k, j))
abbrev xv (v : Value) : xV := Sum.inr (Sum.inr v)
abbrev xj : xV := xv (.retAddr 0)
abbrev xS : Type := Nat → Nat → Nat → Int
abbrev xW : Type := (Nat → Nat → Nat) × va_G × (Nat → ClassId) × Nat × (Nat → Nat) × Nat × (Nat → Int32)
abbrev xr (a : Int) : Prop := -2147483648 ≤ a ∧ a < 2147483648
abbrev x64 (a : Int) : Prop := -9223372036854775808 ≤ a ∧ a < 9223372036854775808
def xc (ad : Nat → Nat → Nat) : xV → Value
  | .inl (.inl a) => .int (Int32.ofInt a)
  | .inl (.inr a) => .long (Int64.ofInt a)
  | .inr (.inl q) => .ref (ad q.1 q.2)
  | .inr (.inr v) => v
/-- which objects there are -/
def xval (k j : Nat) : Bool := match k with
  | 0 => j == 0
  | 1 => decide (j < 5)
  | 2 => decide (j < 8)
  | 3 => j == 0
  | 4 => decide (j < 40)
  | 5 => decide (j < 5)
  | 10 => decide (j / 32 < 8) && decide (j % 32 < 21)
  | 20 => j == 0
  | 21 => j == 0
  | 22 => decide (j < 5)
  | 23 => decide (j < 8)
  | 24 => j == 0
  | 25 => decide (j < 5)
  | 30 => j == 0
  | 31 => j == 0
  | 32 => j == 0
  | k => decide (50 ≤ k)
def xLL : List (Nat × Nat) := (List.range 50).flatMap fun k => ((List.range 256).filter fun j => xval k j).map fun j => (k, j)
theorem xval_lt {k j : Nat} (h : xval k j = true) (hk : k < 50) : j < 256 := by
  unfold xval at h
  split at h <;> simp at h <;> omega
theorem xLL_in {k j : Nat} (h : xval k j = true) (hk : k < 50) : (k, j) ∈ xLL := by
  refine List.mem_flatMap.mpr ⟨k, List.mem_range.mpr hk, List.mem_map.mpr ⟨j, List.mem_filter.mpr ⟨List.mem_range.mpr (xval_lt h hk), h⟩, rfl⟩⟩
theorem xLL_of {q : Nat × Nat} (h : q ∈ xLL) : xval q.1 q.2 = true ∧ q.1 < 50 := by
  obtain ⟨k, hk, h⟩ := List.mem_flatMap.mp h
  obtain ⟨j, hj, rfl⟩ := List.mem_map.mp h
  exact ⟨(List.mem_filter.mp hj).2, List.mem_range.mp hk⟩
theorem xLL_nd : xLL.Nodup := by decide +kernel
def xok : xV → Prop
  | .inr (.inl q) => xval q.1 q.2 = true
  | _ => True
abbrev xf (F : Nat → Int) (f : Nat) : Value := .int (Int32.ofInt (F f))
/-- what the object k, j looks like -/
def xce (w : xW) (k j : Nat) (F : Nat → Int) : va_E := match k with
  | 0 => .inr (6, [.ref (w.1 1 0), .ref (w.1 1 1), .ref (w.1 20 0), .ref (w.1 21 0), .ref (w.1 2 5), .ref (w.1 2 6), .ref (w.1 3 0)])
  | 1 => .inr (4, [.ref (w.1 2 j), .ref (w.1 22 j), .ref (w.1 5 j), xf F 3, xf F 4, xf F 5, .long (Int64.ofInt (F 6)), xf F 7, xf F 8, xf F 9, xf F 10, xf F 11, xf F 12, xf F 13])
  | 2 => .inr (5, [.ref (w.1 23 j), xf F 1, xf F 2])
  | 3 => .inr (3, [.ref (w.1 24 0), xf F 1, .ref (w.1 1 4), .ref (w.1 2 7), xf F 4, xf F 5, .ref (w.1 50 (F 6).toNat), xf F 7, xf F 8, xf F 9])
  | 4 => .inr (0, [xf F 0, xf F 1, xf F 2, xf F 3, xf F 4, xf F 5, xf F 6, xf F 7, xf F 8, xf F 9, xf F 10])
  | 5 => .inr (2, [.ref (w.1 25 j), xf F 1, xf F 2])
  | 10 => .inr (1, [xf F 0, xf F 1, xf F 2, xf F 3, xf F 4, xf F 5, xf F 6, xf F 7, xf F 8, xf F 9, xf F 10, xf F 11, xf F 12, xf F 13, xf F 14, xf F 15, xf F 16])
  | 20 => .inl (w.2.2.1 6, (2, .inr (.inr (.inr (.inr fun f => some (w.1 1 (2 + f)))))))
  | 21 => .inl (w.2.2.1 2, (2, .inl fun f => Int32.ofInt (F f)))
  | 22 => .inl (w.2.2.1 5, (8, .inr (.inr (.inr (.inr fun f => some (w.1 4 (8 * j + f)))))))
  | 23 => .inl (w.2.2.1 4, (21, .inr (.inr (.inr (.inr fun f => some (w.1 10 (32 * j + f)))))))
  | 24 => .inl (w.2.2.1 3, (700, .inl fun f => Int32.ofInt (F f)))
  | 25 => .inl (w.2.2.1 0, (64, .inl fun f => Int32.ofInt (F f)))
  | 30 => .inr (7, [.ref (w.1 0 0), .ref (w.1 52 0), xf F 2, .ref (w.1 31 0), .ref (w.1 32 0)])
  | 31 => .inl (w.2.2.1 0, (15, .inl fun f => Int32.ofInt (F f)))
  | 32 => .inl (w.2.2.1 0, (4, .inl fun f => Int32.ofInt (F f)))
  | _ => .inl (w.2.2.1 0, (0, .inl fun f => Int32.ofInt (F f)))
def xwl (w : xW) (S : xS) : va_W := xLL.map fun q => (w.1 q.1 q.2, xce w q.1 q.2 (S q.1 q.2))
def xtys (w : xW) : List (ClassId × FieldType) := [(w.2.2.1 0, .int), (w.2.2.1 0, .int), (w.2.2.1 2, .boolean), (w.2.2.1 3, .byte), (w.2.2.1 4, .object "PromiseMarket$Promise"), (w.2.2.1 5, .object "PromiseMarket$Process"), (w.2.2.1 6, .object "PromiseMarket$State")]
def xlng (k f : Nat) : Bool := match k with
  | 1 => f == 6
  | _ => false
/-- every number of the store is in its range -/
def xWR (S : xS) : Prop := (∀ k j f, x64 (S k j f)) ∧ ∀ k j f, xlng k f = false → xr (S k j f)
def xfr (w : xW) : Nat → Prop := fun q => w.2.2.2.1 ≤ q
def xRep (w : xW) (S : xS) (H : Heap) : Prop := va_P w.2.1 vwCl (xwl w S) H ∧ va_D (xfr w) (xwl w S) ∧ xWR S
/-- the store with one number changed -/
def up (S : xS) (k j f : Nat) (v : Int) : xS := fun k' j' f' => if k' = k ∧ j' = j ∧ f' = f then v else S k' j' f'
theorem up_oth {S : xS} {k j f k' j' : Nat} {v : Int} (h : ¬ (k' = k ∧ j' = j)) : up S k j f v k' j' = S k' j' := by
  funext f'
  unfold up
  rw [if_neg (fun z => h ⟨z.1, z.2.1⟩)]
theorem up_row (S : xS) (k j f : Nat) (v : Int) : up S k j f v k j = fun f' => if f' = f then v else S k j f' := by
  funext f'
  unfold up
  by_cases h : f' = f
  · rw [if_pos ⟨rfl, rfl, h⟩, if_pos h]
  · rw [if_neg (fun z => h z.2.2), if_neg h]
theorem xWR.up {S : xS} (h : xWR S) (k j f : Nat) {v : Int} (h1 : x64 v) (h2 : xlng k f = false → xr v) : xWR (up S k j f v) := by
  refine ⟨fun k' j' f' => ?_, fun k' j' f' hl => ?_⟩
  · show x64 (if k' = k ∧ j' = j ∧ f' = f then v else S k' j' f')
    by_cases q : k' = k ∧ j' = j ∧ f' = f
    · rw [if_pos q]; exact h1
    · rw [if_neg q]; exact h.1 k' j' f'
  · show xr (if k' = k ∧ j' = j ∧ f' = f then v else S k' j' f')
    by_cases q : k' = k ∧ j' = j ∧ f' = f
    · rw [if_pos q]; exact h2 (by rw [← q.1, ← q.2.2]; exact hl)
    · rw [if_neg q]; exact h.2 k' j' f' hl
/-- the place of an object in the world's list -/
theorem xwl_at {k j : Nat} (h : xval k j = true) (hk : k < 50) : ∃ i : Nat, xLL[i]? = some (k, j) ∧ ∀ (w : xW) (S : xS), (xwl w S)[i]? = some (w.1 k j, xce w k j (S k j)) := by
  obtain ⟨i, hi⟩ := List.getElem?_of_mem (xLL_in h hk)
  exact ⟨i, hi, fun w S => by unfold xwl; rw [List.getElem?_map, hi]; rfl⟩
theorem xwl_set {w : xW} {S S' : xS} {k j i : Nat} (hi : xLL[i]? = some (k, j)) (ho : ∀ k' j', ¬ (k' = k ∧ j' = j) → S' k' j' = S k' j') : (xwl w S).set i (w.1 k j, xce w k j (S' k j)) = xwl w S' := by
  refine List.ext_getElem? fun n => ?_
  by_cases hn : n = i
  · subst hn
    rw [List.getElem?_set_self (by unfold xwl; rw [List.length_map]; exact (List.getElem?_eq_some_iff.mp hi).1)]
    unfold xwl
    rw [List.getElem?_map, hi]
    rfl
  · rw [List.getElem?_set_ne (Ne.symm hn)]
    unfold xwl
    rw [List.getElem?_map, List.getElem?_map]
    cases hq : xLL[n]? with
    | none => rfl
    | some q =>
      obtain ⟨k', j'⟩ := q
      have hne : ¬ (k' = k ∧ j' = j) := by
        rintro ⟨rfl, rfl⟩
        obtain ⟨l1, e1⟩ := List.getElem?_eq_some_iff.mp hi
        obtain ⟨l2, e2⟩ := List.getElem?_eq_some_iff.mp hq
        exact hn ((List.getElem_inj xLL_nd).mp (e2.trans e1.symm))
      show some (_, xce w k' j' (S k' j')) = some (_, xce w k' j' (S' k' j'))
      rw [ho k' j' hne]
theorem xRep.upd {w : xW} {S S' : xS} {H1 : Heap} {k j i : Nat} (hi : xLL[i]? = some (k, j)) (ho : ∀ k' j', ¬ (k' = k ∧ j' = j) → S' k' j' = S k' j') (hW : xWR S')
    (hP : va_P w.2.1 vwCl ((xwl w S).set i (w.1 k j, xce w k j (S' k j))) H1) (hD : va_D (xfr w) ((xwl w S).set i (w.1 k j, xce w k j (S' k j)))) : xRep w S' H1 := by
  rw [xwl_set hi ho] at hP hD
  exact ⟨hP, hD, hW⟩
/-! the locals -/
def xjk : xV → Bool
  | .inr (.inr (.retAddr _)) => true
  | _ => false
def xpl (ad : Nat → Nat → Nat) : Nat → List xV → List (Nat × Value)
  | _, [] => []
  | n, v :: r => if xjk v then xpl ad (n + 1) r else (n, xc ad v) :: xpl ad (n + 1) r
theorem xpl_mem {ad : Nat → Nat → Nat} {L : List xV} : ∀ {n : Nat} {q : Nat × Value}, q ∈ xpl ad n L ↔ ∃ (j : Nat) (v : xV), q.1 = n + j ∧ L[j]? = some v ∧ xjk v = false ∧ q.2 = xc ad v := by
  induction L with
  | nil =>
    intro n q
    constructor
    · intro h; cases h
    · rintro ⟨j, v, -, h, -⟩; simp at h
  | cons a r ih =>
    intro n q
    have base : ∀ (j : Nat), (a :: r)[j + 1]? = r[j]? := fun j => by simp
    constructor
    · intro h
      unfold xpl at h
      by_cases ha : xjk a = true
      · rw [if_pos ha] at h
        obtain ⟨j, v, h1, h2, h3, h4⟩ := ih.mp h
        exact ⟨j + 1, v, by omega, by rw [base]; exact h2, h3, h4⟩
      · rw [if_neg ha] at h
        rcases List.mem_cons.mp h with rfl | h
        · exact ⟨0, a, rfl, by simp, by simpa using ha, rfl⟩
        · obtain ⟨j, v, h1, h2, h3, h4⟩ := ih.mp h
          exact ⟨j + 1, v, by omega, by rw [base]; exact h2, h3, h4⟩
    · rintro ⟨j, v, h1, h2, h3, h4⟩
      unfold xpl
      cases j with
      | zero =>
        simp at h2
        subst h2
        rw [if_neg (by rw [h3]; decide)]
        exact List.mem_cons.mpr (Or.inl (Prod.ext h1 h4))
      | succ j =>
        rw [base] at h2
        have h5 : q ∈ xpl ad (n + 1) r := ih.mpr ⟨j, v, by omega, h2, h3, h4⟩
        by_cases ha : xjk a = true
        · rw [if_pos ha]; exact h5
        · rw [if_neg ha]; exact List.mem_cons_of_mem _ h5
def xlh (ad : Nat → Nat → Nat) (ls : Array Slot) (nL : Nat) (L : List xV) : Prop := L.length = nL ∧ lv_has ls nL (xpl ad 0 L)
theorem xlh.get {ad : Nat → Nat → Nat} {ls : Array Slot} {nL : Nat} {L : List xV} (h : xlh ad ls nL L) {i : Nat} {v : xV} (hi : L[i]? = some v) (hv : xjk v = false) : ls[i]? = some (.val (xc ad v)) :=
  h.2.2.2 (i, xc ad v) (xpl_mem.mpr ⟨i, v, by simp, hi, hv, rfl⟩)
theorem xlh.size {ad : Nat → Nat → Nat} {ls : Array Slot} {nL : Nat} {L : List xV} (h : xlh ad ls nL L) : ls.size = nL := h.2.1
def xcat2 : xV → Bool
  | .inl (.inr _) => true
  | .inr (.inr (.double _)) => true
  | .inr (.inr (.long _)) => true
  | _ => false
theorem xcat_of {ad : Nat → Nat → Nat} {v : xV} (h : xcat2 v = false) : (xc ad v).category ≠ 2 := by
  rcases v with (a | a) | (q | v)
  · simp [xc, Value.category]
  · simp [xcat2] at h
  · simp [xc, Value.category]
  · cases v <;> simp [xc, Value.category, xcat2] at h ⊢
/-- no value of two slots stands right before the place i -/
def xpre (L : List xV) (i : Nat) : Prop := ∀ (j : Nat) (v : xV), j + 1 = i → L[j]? = some v → xcat2 v = false
theorem xlh.set1 {ad : Nat → Nat → Nat} {ls' : Array Slot} {nL : Nat} {L : List xV} {i : Nat} {v : xV} (hn : L.length = nL) (hp : xpre L i)
    (h : lv_has ls' nL ((i, xc ad v) :: (xpl ad 0 L).filter (fun q => !(q.1 == i) && !(q.1 + 1 == i && q.2.category == 2)))) : xlh ad ls' nL (L.set i v) := by
  refine ⟨by rw [List.length_set]; exact hn, h.1, h.2.1, fun q hq => ?_⟩
  obtain ⟨j, u, h1, h2, h3, h4⟩ := xpl_mem.mp hq
  rw [Nat.zero_add] at h1
  by_cases hj : j = i
  · subst hj
    have hlt : j < L.length := by
      have := (List.getElem?_eq_some_iff.mp h2).1
      rwa [List.length_set] at this
    rw [List.getElem?_set_self hlt] at h2
    cases h2
    rw [h1, h4]
    exact h.2.2 (j, xc ad v) List.mem_cons_self
  · rw [List.getElem?_set_ne (Ne.symm hj)] at h2
    refine h.2.2 q (List.mem_cons_of_mem _ (List.mem_filter.mpr ⟨xpl_mem.mpr ⟨j, u, by omega, h2, h3, h4⟩, ?_⟩))
    simp only [Bool.and_eq_true, Bool.not_eq_true', beq_eq_false_iff_ne, ne_eq, Bool.and_eq_false_iff]
    refine ⟨by rw [h1]; exact hj, ?_⟩
    by_cases e : j + 1 = i
    · exact Or.inr (by rw [h4]; exact xcat_of (hp j u e h2))
    · exact Or.inl (by rw [h1]; exact e)
theorem xlh.set2 {ad : Nat → Nat → Nat} {ls' : Array Slot} {nL : Nat} {L : List xV} {i : Nat} {v : xV} (hn : L.length = nL) (hp : xpre L i)
    (h : lv_has ls' nL ((i, xc ad v) :: (xpl ad 0 L).filter (fun q => !(q.1 == i) && (!(q.1 == i + 1) && !(q.1 + 1 == i && q.2.category == 2))))) : xlh ad ls' nL ((L.set i v).set (i + 1) xj) := by
  refine ⟨by rw [List.length_set, List.length_set]; exact hn, h.1, h.2.1, fun q hq => ?_⟩
  obtain ⟨j, u, h1, h2, h3, h4⟩ := xpl_mem.mp hq
  rw [Nat.zero_add] at h1
  have hlt : j < L.length := by
    have := (List.getElem?_eq_some_iff.mp h2).1
    rwa [List.length_set, List.length_set] at this
  by_cases hj2 : j = i + 1
  · subst hj2
    rw [List.getElem?_set_self (by rw [List.length_set]; exact hlt)] at h2
    cases h2
    cases h3
  · rw [List.getElem?_set_ne (Ne.symm hj2)] at h2
    by_cases hj : j = i
    · subst hj
      rw [List.getElem?_set_self hlt] at h2
      cases h2
      rw [h1, h4]
      exact h.2.2 (j, xc ad v) List.mem_cons_self
    · rw [List.getElem?_set_ne (Ne.symm hj)] at h2
      refine h.2.2 q (List.mem_cons_of_mem _ (List.mem_filter.mpr ⟨xpl_mem.mpr ⟨j, u, by omega, h2, h3, h4⟩, ?_⟩))
      simp only [Bool.and_eq_true, Bool.not_eq_true', beq_eq_false_iff_ne, ne_eq, Bool.and_eq_false_iff]
      refine ⟨by rw [h1]; exact hj, by rw [h1]; exact hj2, ?_⟩
      by_cases e : j + 1 = i
      · exact Or.inr (by rw [h4]; exact xcat_of (hp j u e h2))
      · exact Or.inl (by rw [h1]; exact e)
end
section
/-! X: from here the method comes to its end, whatever stands below -/
abbrev xM : Type := String × ByteArray × Nat × Option FieldType × List (Nat × Nat × Nat × Nat) × Nat × Nat
/-- the strings of the claim: where, text, number -/
def xstr : List (String × Nat × String × Nat) := [("PromiseMarket$State", 83, "there is no such process", 6), ("PromiseMarket$Timeline", 31, "there is no such promise", 7), ("PromiseMarket", 250, "an argument is out of range", 8), ("PromiseMarket", 257, "the state does not allow this call", 9)]
def xcast : List (String × String) := [("java/lang/IndexOutOfBoundsException", "java/lang/IndexOutOfBoundsException"), ("java/lang/IllegalArgumentException", "java/lang/IllegalArgumentException"), ("java/lang/IllegalStateException", "java/lang/IllegalStateException")]
def xdecl : List MethodName := [⟨"java/lang/RuntimeException", "<init>", "(Ljava/lang/String;)V"⟩, ⟨"java/lang/Exception", "<init>", "(Ljava/lang/String;)V"⟩, ⟨"java/lang/Throwable", "<init>", "(Ljava/lang/String;)V"⟩]
def xnest : List (String × Nat × MethodName × String) := []
def xnot : List (String × String) := [("java/lang/IllegalArgumentException", "java/lang/IndexOutOfBoundsException"), ("java/lang/IllegalStateException", "java/lang/IndexOutOfBoundsException"), ("java/lang/IllegalStateException", "java/lang/IllegalArgumentException")]
/-- what the old part of the heap and the tables say, for good -/
def xOld (w : xW) (s : State) (H : Heap) : Prop :=
  (va_En "PromiseMarket$Token" "LPromiseMarket$Token;" ["END"] [] (w.1 50) (xfr w) s H ∧ va_X (w.1 52 0) w.2.2.2.2.2.1 w.2.2.2.2.2.2 s H ∧ w.1 52 0 < w.2.2.2.1) ∧
  (True ∧ (∀ q ∈ xstr, vk_R q.1 q.2.1 q.2.2.1 (w.1 51 q.2.2.2) s) ∧ True ∧ True) ∧
  (vx_Zq Bundle.tN "UNASSIGNED_STACK" Bundle.steD (xfr w) s H ∧ vx_Zq Bundle.tN "SUPPRESSED_SENTINEL" Bundle.listD (xfr w) s H) ∧
  ((∀ q ∈ xcast, va_Nw (.castable q.1 q.2) s) ∧ (∀ q ∈ xdecl, va_Nw (.declares q) s) ∧ (∀ q ∈ xnest, va_Nw (.methodLinkNest q.1 q.2.1 q.2.2.1 q.2.2.2) s) ∧ ∀ q ∈ xnot, va_Nc q.1 q.2 s)
def xSta (w : xW) (s : State) (H : Heap) : Prop := va_K w.2.1 vwCl (xtys w) s ∧ w.2.2.2.1 ≤ H.size ∧ xOld w s H
theorem xSta.moved {w : xW} {s U : State} {H : Heap} (hW : s.WarmedH U.vm) (h : xSta w s H) : xSta w U H := by
  have hvm := hW.alike
  obtain ⟨h1, h2, ⟨a1, a2, a3⟩, ⟨b1, b2, b3, b4⟩, ⟨c1, c2⟩, d1, d2, d3, d4⟩ := h
  exact ⟨va_K.moved hvm h1, h2, ⟨va_En.moved hvm a1, va_X.moved hvm a2, a3⟩, ⟨b1, fun q hq => vk_R.warm hW (b2 q hq), b3, b4⟩, ⟨vx_Zq.moved hvm c1, vx_Zq.moved hvm c2⟩, fun q hq => va_Nw.warmC hW (d1 q hq), fun q hq => va_Nw.warmD hW (d2 q hq), fun q hq => va_Nw.warmM hW (d3 q hq), fun q hq => va_Nc.moved hvm (d4 q hq)⟩
theorem xSta.kept {w : xW} {s : State} {H H1 : Heap} (h : xSta w s H) (hz : H.size ≤ H1.size) (hq : ∀ a : Nat, a < H.size → ¬ xfr w a → H1[a]? = H[a]?) : xSta w s H1 := by
  obtain ⟨h1, h2, ⟨a1, a2, a3⟩, ⟨b1, b2, b3, b4⟩, ⟨c1, c2⟩, d⟩ := h
  exact ⟨h1, Nat.le_trans h2 hz, ⟨a1.kept hq, a2.kept (hq _ (Nat.lt_of_lt_of_le a3 h2) (Nat.not_le.mpr a3)), a3⟩, ⟨b1, b2, b3, b4⟩, ⟨c1.kept hq, c2.kept hq⟩, d⟩
/-- the tables' words that stay good from state to state -/
def xtb : List Cond := lw_tbl.filter goodWord
theorem xtb_in {i : Nat} {w : Cond} (h : tables_1[i]? = some w) (hg : goodWord w = true) : w ∈ xtb := List.mem_filter.mpr ⟨List.mem_append_right _ (List.mem_of_getElem? h), hg⟩
theorem xtb_good {ws : List Cond} (h : ∀ w ∈ ws, w ∈ xtb) : GoodIn xtb ws := fun w hw => ⟨h w hw, good_of_word (List.mem_filter.mp (h w hw)).2⟩
def xCx (w : xW) (mi : xM) (p : Program) (l : Launch) (R : Room) (s : State) (m : MethodId) (args : Array Value) (meth : Method) (c : Code) : Prop :=
  p.tables.exec = Jvm.exec ∧ c.code = mi.2.1 ∧ meth.sig.returnType = mi.2.2.2.1 ∧ c.maxLocals = mi.2.2.1 ∧ s.vm.findClass mi.1 = some m.cls ∧ (∀ w ∈ xtb, w.before args s = true) ∧ meth.locks = false ∧
  c.exceptionTable.toList = tableOf mi.2.2.2.2.1 ∧ (mi.2.2.2.2.2.1 ≤ R.frames ∧ mi.2.2.2.2.2.2 ≤ R.locals) ∧ l.flags = flags0 ∧ xSta w s s.heap
abbrev xT : Type := List Frame → Array Value → State → Nat → Nat → State → Prop
def X (w : xW) (mi : xM) (TG : xT) (k n : Nat) (pc : Nat) (L st : List xV) (S : xS) : Prop :=
  ∀ (p : Program) (l : Launch) (e : Env) (R : Room) (s : State) (m : MethodId) (args : Array Value) (below : List Frame) (meth : Method) (c : Code) (H : Heap) (locs : List Loc) (cells slots MC MS : Nat) (ls : Array Slot),
    xCx w mi p l R s m args meth c → (cells + k ≤ MC ∧ slots + n ≤ MS ∧ MC ≤ R.cells ∧ MS ≤ R.slots) → xRep w S H → va_S (xfr w) s.heap H locs → xlh w.1 ls mi.2.2.1 L → (∀ v ∈ L, xok v) → (∀ v ∈ st, xok v) →
    W p l e R s m args below meth c H locs cells slots (TG below args s MC MS) (F0 m pc ls (st.map (xc w.1)))
/-- an exception E is thrown here, by the instruction at pc -/
def XT (w : xW) (mi : xM) (TG : xT) (k n : Nat) (pc : Nat) (L st : List xV) (E : String) (S : xS) : Prop :=
  ∀ (p : Program) (l : Launch) (e : Env) (R : Room) (s : State) (m : MethodId) (args : Array Value) (below : List Frame) (meth : Method) (c : Code) (H : Heap) (locs : List Loc) (cells slots MC MS : Nat) (ls : Array Slot) (q : Addr) (ce : Cell),
    xCx w mi p l R s m args meth c → (cells + k ≤ MC ∧ slots + n ≤ MS ∧ MC ≤ R.cells ∧ MS ≤ R.slots) → xRep w S H → va_S (xfr w) s.heap H locs → xlh w.1 ls mi.2.2.1 L → (∀ v ∈ L, xok v) → (∀ v ∈ st, xok v) →
    H[q]? = some ce → ce.vm = .none → s.vm.findClass E = some ce.cls →
    vx_W p l e R s m args below meth c H locs cells slots (TG below args s MC MS) (F0 m pc ls (st.map (xc w.1))) q
/-- an instruction: where it stands, how long it is, what comes next -/
def xd (cc : ByteArray) (pc : Nat) (i : Instr) (n pc' : Nat) : Prop := decode cc pc = .ok (i, n) ∧ pc + n = pc'
theorem xok_cons {v : xV} {st : List xV} (h : ∀ u ∈ v :: st, xok u) : xok v ∧ ∀ u ∈ st, xok u := ⟨h v List.mem_cons_self, fun u hu => h u (List.mem_cons_of_mem _ hu)⟩
theorem xok_of {v : xV} {st : List xV} (h : xok v) (h2 : ∀ u ∈ st, xok u) : ∀ u ∈ v :: st, xok u := fun u hu => (List.mem_cons.mp hu).elim (fun e => e ▸ h) (h2 u)
theorem xok_at {L : List xV} {i : Nat} {v : xV} (h : ∀ u ∈ L, xok u) (hi : L[i]? = some v) : xok v := h v (List.mem_of_getElem? hi)
theorem xok_set {L : List xV} {i : Nat} {v : xV} (h : ∀ u ∈ L, xok u) (hv : xok v) : ∀ u ∈ L.set i v, xok u := fun u hu => (List.mem_or_eq_of_mem_set hu).elim (h u) (fun e => e ▸ hv)
section XR
variable {w : xW} {mi : xM} {TG : xT} {k n pc pc' : Nat} {L st : List xV} {S : xS}
/-! constants -/
theorem xa_iconst {a : Int} (h : xd mi.2.1 pc (.iconst a) 1 pc') (kk : X w mi TG k n pc' L (xi a :: st) S) : X w mi TG k n pc L st S := by
  obtain ⟨hd, rfl⟩ := h
  intro p l e R s m args below meth c H locs cells slots MC MS ls hC hB hR hS hl hL hst
  exact lv_iconst hC.1 hC.2.1 hd rfl (kk p l e R s m args below meth c H locs cells slots MC MS ls hC hB hR hS hl hL (xok_of (v := xi a) trivial hst))
theorem xa_bipush {a : Int} (h : xd mi.2.1 pc (.bipush a) 2 pc') (hv : (Int8.ofInt a).toInt32 = Int32.ofInt a) (kk : X w mi TG k n pc' L (xi a :: st) S) : X w mi TG k n pc L st S := by
  obtain ⟨hd, rfl⟩ := h
  intro p l e R s m args below meth c H locs cells slots MC MS ls hC hB hR hS hl hL hst
  exact lv_bipush hC.1 hC.2.1 hd hv (kk p l e R s m args below meth c H locs cells slots MC MS ls hC hB hR hS hl hL (xok_of (v := xi a) trivial hst))
theorem xa_sipush {a : Int} (h : xd mi.2.1 pc (.sipush a) 3 pc') (hv : (Int16.ofInt a).toInt32 = Int32.ofInt a) (kk : X w mi TG k n pc' L (xi a :: st) S) : X w mi TG k n pc L st S := by
  obtain ⟨hd, rfl⟩ := h
  intro p l e R s m args below meth c H locs cells slots MC MS ls hC hB hR hS hl hL hst
  exact lv_sipush hC.1 hC.2.1 hd hv (kk p l e R s m args below meth c H locs cells slots MC MS ls hC hB hR hS hl hL (xok_of (v := xi a) trivial hst))
theorem xa_lconst0 (h : xd mi.2.1 pc (.lconst 0) 1 pc') (kk : X w mi TG k n pc' L (xl 0 :: st) S) : X w mi TG k n pc L st S := by
  obtain ⟨hd, rfl⟩ := h
  intro p l e R s m args below meth c H locs cells slots MC MS ls hC hB hR hS hl hL hst
  exact lv_lconst (v := Int64.ofInt 0) hC.1 hC.2.1 hd (by decide) (kk p l e R s m args below meth c H locs cells slots MC MS ls hC hB hR hS hl hL (xok_of (v := xl 0) trivial hst))
theorem xa_lconst1 (h : xd mi.2.1 pc (.lconst 1) 1 pc') (kk : X w mi TG k n pc' L (xl 1 :: st) S) : X w mi TG k n pc L st S := by
  obtain ⟨hd, rfl⟩ := h
  intro p l e R s m args below meth c H locs cells slots MC MS ls hC hB hR hS hl hL hst
  exact lv_lconst (v := Int64.ofInt 1) hC.1 hC.2.1 hd (by decide) (kk p l e R s m args below meth c H locs cells slots MC MS ls hC hB hR hS hl hL (xok_of (v := xl 1) trivial hst))
theorem xa_ldc {a : Int} {index : Nat} {v : Int32} (h : xd mi.2.1 pc (.ldc index) 2 pc') (hw : Cond.constant mi.1 index v ∈ xtb) (hv : v = Int32.ofInt a) (kk : X w mi TG k n pc' L (xi a :: st) S) : X w mi TG k n pc L st S := by
  obtain ⟨hd, rfl⟩ := h
  subst hv
  intro p l e R s m args below meth c H locs cells slots MC MS ls hC hB hR hS hl hL hst
  exact lv_ldc hC.1 hC.2.1 hC.2.2.2.2.1 (hC.2.2.2.2.2.1 _ hw) hd (kk p l e R s m args below meth c H locs cells slots MC MS ls hC hB hR hS hl hL (xok_of (v := xi a) trivial hst))
theorem xa_ldcw {a : Int} {index : Nat} {v : Int32} (h : xd mi.2.1 pc (.ldc_w index) 3 pc') (hw : Cond.constant mi.1 index v ∈ xtb) (hv : v = Int32.ofInt a) (kk : X w mi TG k n pc' L (xi a :: st) S) : X w mi TG k n pc L st S := by
  obtain ⟨hd, rfl⟩ := h
  subst hv
  intro p l e R s m args below meth c H locs cells slots MC MS ls hC hB hR hS hl hL hst
  exact lv_ldcw hC.1 hC.2.1 hC.2.2.2.2.1 (hC.2.2.2.2.2.1 _ hw) hd (kk p l e R s m args below meth c H locs cells slots MC MS ls hC hB hR hS hl hL (xok_of (v := xi a) trivial hst))
theorem xa_ldc2 {a : Int} {index : Nat} {v : Int64} (h : xd mi.2.1 pc (.ldc2_w index) 3 pc') (hw : Cond.constantLong mi.1 index v ∈ xtb) (hv : v = Int64.ofInt a) (kk : X w mi TG k n pc' L (xl a :: st) S) : X w mi TG k n pc L st S := by
  obtain ⟨hd, rfl⟩ := h
  subst hv
  intro p l e R s m args below meth c H locs cells slots MC MS ls hC hB hR hS hl hL hst
  exact lv_ldc2 hC.1 hC.2.1 hC.2.2.2.2.1 (hC.2.2.2.2.2.1 _ hw) hd (kk p l e R s m args below meth c H locs cells slots MC MS ls hC hB hR hS hl hL (xok_of (v := xl a) trivial hst))
theorem xa_null (h : xd mi.2.1 pc .aconst_null 1 pc') (kk : X w mi TG k n pc' L (xv .null :: st) S) : X w mi TG k n pc L st S := by
  obtain ⟨hd, rfl⟩ := h
  intro p l e R s m args below meth c H locs cells slots MC MS ls hC hB hR hS hl hL hst
  exact lv_null hC.1 hC.2.1 hd (kk p l e R s m args below meth c H locs cells slots MC MS ls hC hB hR hS hl hL (xok_of (v := xv .null) trivial hst))
/-! loads -/
theorem xa_iloadN {q : Fin 4} {i : Nat} {a : Int} (h : xd mi.2.1 pc (.iload_n q) 1 pc') (hq : (q : Nat) = i) (hi : L[i]? = some (xi a)) (kk : X w mi TG k n pc' L (xi a :: st) S) : X w mi TG k n pc L st S := by
  obtain ⟨hd, rfl⟩ := h
  intro p l e R s m args below meth c H locs cells slots MC MS ls hC hB hR hS hl hL hst
  exact lv_iload_n hC.1 hC.2.1 hd hq (hl.get hi rfl) (kk p l e R s m args below meth c H locs cells slots MC MS ls hC hB hR hS hl hL (xok_of (v := xi a) trivial hst))
theorem xa_iload {i : Nat} {a : Int} (h : xd mi.2.1 pc (.iload i) 2 pc') (hi : L[i]? = some (xi a)) (kk : X w mi TG k n pc' L (xi a :: st) S) : X w mi TG k n pc L st S := by
  obtain ⟨hd, rfl⟩ := h
  intro p l e R s m args below meth c H locs cells slots MC MS ls hC hB hR hS hl hL hst
  exact lv_iload hC.1 hC.2.1 hd (hl.get hi rfl) (kk p l e R s m args below meth c H locs cells slots MC MS ls hC hB hR hS hl hL (xok_of (v := xi a) trivial hst))
theorem xa_lloadN {q : Fin 4} {i : Nat} {a : Int} (h : xd mi.2.1 pc (.lload_n q) 1 pc') (hq : (q : Nat) = i) (hi : L[i]? = some (xl a)) (kk : X w mi TG k n pc' L (xl a :: st) S) : X w mi TG k n pc L st S := by
  obtain ⟨hd, rfl⟩ := h
  intro p l e R s m args below meth c H locs cells slots MC MS ls hC hB hR hS hl hL hst
  exact lv_lload_n hC.1 hC.2.1 hd hq (hl.get hi rfl) (kk p l e R s m args below meth c H locs cells slots MC MS ls hC hB hR hS hl hL (xok_of (v := xl a) trivial hst))
theorem xa_lload {i : Nat} {a : Int} (h : xd mi.2.1 pc (.lload i) 2 pc') (hi : L[i]? = some (xl a)) (kk : X w mi TG k n pc' L (xl a :: st) S) : X w mi TG k n pc L st S := by
  obtain ⟨hd, rfl⟩ := h
  intro p l e R s m args below meth c H locs cells slots MC MS ls hC hB hR hS hl hL hst
  exact lv_lload hC.1 hC.2.1 hd (hl.get hi rfl) (kk p l e R s m args below meth c H locs cells slots MC MS ls hC hB hR hS hl hL (xok_of (v := xl a) trivial hst))
theorem xa_dloadN {q : Fin 4} {i : Nat} {a : UInt64} (h : xd mi.2.1 pc (.dload_n q) 1 pc') (hq : (q : Nat) = i) (hi : L[i]? = some (xv (.double a))) (kk : X w mi TG k n pc' L (xv (.double a) :: st) S) : X w mi TG k n pc L st S := by
  obtain ⟨hd, rfl⟩ := h
  intro p l e R s m args below meth c H locs cells slots MC MS ls hC hB hR hS hl hL hst
  exact lv_dload_n hC.1 hC.2.1 hd hq (hl.get hi rfl) (kk p l e R s m args below meth c H locs cells slots MC MS ls hC hB hR hS hl hL (xok_of (v := xv (.double a)) trivial hst))
theorem xa_dload {i : Nat} {a : UInt64} (h : xd mi.2.1 pc (.dload i) 2 pc') (hi : L[i]? = some (xv (.double a))) (kk : X w mi TG k n pc' L (xv (.double a) :: st) S) : X w mi TG k n pc L st S := by
  obtain ⟨hd, rfl⟩ := h
  intro p l e R s m args below meth c H locs cells slots MC MS ls hC hB hR hS hl hL hst
  exact lv_dload hC.1 hC.2.1 hd (hl.get hi rfl) (kk p l e R s m args below meth c H locs cells slots MC MS ls hC hB hR hS hl hL (xok_of (v := xv (.double a)) trivial hst))
theorem xa_aloadN {q : Fin 4} {i x y : Nat} (h : xd mi.2.1 pc (.aload_n q) 1 pc') (hq : (q : Nat) = i) (hi : L[i]? = some (xp x y)) (kk : X w mi TG k n pc' L (xp x y :: st) S) : X w mi TG k n pc L st S := by
  obtain ⟨hd, rfl⟩ := h
  intro p l e R s m args below meth c H locs cells slots MC MS ls hC hB hR hS hl hL hst
  exact lv_aload_n hC.1 hC.2.1 hd hq (hl.get hi rfl) (kk p l e R s m args below meth c H locs cells slots MC MS ls hC hB hR hS hl hL (xok_of (xok_at hL hi) hst))
theorem xa_aload {i x y : Nat} (h : xd mi.2.1 pc (.aload i) 2 pc') (hi : L[i]? = some (xp x y)) (kk : X w mi TG k n pc' L (xp x y :: st) S) : X w mi TG k n pc L st S := by
  obtain ⟨hd, rfl⟩ := h
  intro p l e R s m args below meth c H locs cells slots MC MS ls hC hB hR hS hl hL hst
  exact lv_aload hC.1 hC.2.1 hd (hl.get hi rfl) (kk p l e R s m args below meth c H locs cells slots MC MS ls hC hB hR hS hl hL (xok_of (xok_at hL hi) hst))
theorem xa_aloadNN {q : Fin 4} {i : Nat} (h : xd mi.2.1 pc (.aload_n q) 1 pc') (hq : (q : Nat) = i) (hi : L[i]? = some (xv .null)) (kk : X w mi TG k n pc' L (xv .null :: st) S) : X w mi TG k n pc L st S := by
  obtain ⟨hd, rfl⟩ := h
  intro p l e R s m args below meth c H locs cells slots MC MS ls hC hB hR hS hl hL hst
  exact lv_aload_nN hC.1 hC.2.1 hd hq (hl.get hi rfl) (kk p l e R s m args below meth c H locs cells slots MC MS ls hC hB hR hS hl hL (xok_of (v := xv .null) trivial hst))
theorem xa_aloadX {i : Nat} (h : xd mi.2.1 pc (.aload i) 2 pc') (hi : L[i]? = some (xv .null)) (kk : X w mi TG k n pc' L (xv .null :: st) S) : X w mi TG k n pc L st S := by
  obtain ⟨hd, rfl⟩ := h
  intro p l e R s m args below meth c H locs cells slots MC MS ls hC hB hR hS hl hL hst
  exact lv_aloadN hC.1 hC.2.1 hd (hl.get hi rfl) (kk p l e R s m args below meth c H locs cells slots MC MS ls hC hB hR hS hl hL (xok_of (v := xv .null) trivial hst))
/-! stores -/
theorem xa_istoreN {q : Fin 4} {i : Nat} {a : Int} (h : xd mi.2.1 pc (.istore_n q) 1 pc') (hq : (q : Nat) = i) (hi : i < L.length) (hp : xpre L i) (kk : X w mi TG k n pc' (L.set i (xi a)) st S) : X w mi TG k n pc L (xi a :: st) S := by
  obtain ⟨hd, rfl⟩ := h
  intro p l e R s m args below meth c H locs cells slots MC MS ls hC hB hR hS hl hL hst
  exact lv_istore_n hC.1 hC.2.1 hd hq hl.2 (by rw [← hl.1]; exact hi) rfl (fun ls' hl' => kk p l e R s m args below meth c H locs cells slots MC MS ls' hC hB hR hS (xlh.set1 (v := xi a) hl.1 hp hl') (xok_set hL (v := xi a) trivial) (xok_cons hst).2)
theorem xa_istore {i : Nat} {a : Int} (h : xd mi.2.1 pc (.istore i) 2 pc') (hi : i < L.length) (hp : xpre L i) (kk : X w mi TG k n pc' (L.set i (xi a)) st S) : X w mi TG k n pc L (xi a :: st) S := by
  obtain ⟨hd, rfl⟩ := h
  intro p l e R s m args below meth c H locs cells slots MC MS ls hC hB hR hS hl hL hst
  exact lv_istore hC.1 hC.2.1 hd hl.2 (by rw [← hl.1]; exact hi) rfl (fun ls' hl' => kk p l e R s m args below meth c H locs cells slots MC MS ls' hC hB hR hS (xlh.set1 (v := xi a) hl.1 hp hl') (xok_set hL (v := xi a) trivial) (xok_cons hst).2)
theorem xa_lstoreN {q : Fin 4} {i : Nat} {a : Int} (h : xd mi.2.1 pc (.lstore_n q) 1 pc') (hq : (q : Nat) = i) (hi : i + 1 < L.length) (hp : xpre L i) (kk : X w mi TG k n pc' ((L.set i (xl a)).set (i + 1) xj) st S) : X w mi TG k n pc L (xl a :: st) S := by
  obtain ⟨hd, rfl⟩ := h
  intro p l e R s m args below meth c H locs cells slots MC MS ls hC hB hR hS hl hL hst
  exact lv_lstore_n hC.1 hC.2.1 hd hq hl.2 (by rw [← hl.1]; exact hi) rfl (fun ls' hl' => kk p l e R s m args below meth c H locs cells slots MC MS ls' hC hB hR hS (xlh.set2 (v := xl a) hl.1 hp hl') (xok_set (xok_set hL (v := xl a) trivial) (v := xj) trivial) (xok_cons hst).2)
theorem xa_lstore {i : Nat} {a : Int} (h : xd mi.2.1 pc (.lstore i) 2 pc') (hi : i + 1 < L.length) (hp : xpre L i) (kk : X w mi TG k n pc' ((L.set i (xl a)).set (i + 1) xj) st S) : X w mi TG k n pc L (xl a :: st) S := by
  obtain ⟨hd, rfl⟩ := h
  intro p l e R s m args below meth c H locs cells slots MC MS ls hC hB hR hS hl hL hst
  exact lv_lstore hC.1 hC.2.1 hd hl.2 (by rw [← hl.1]; exact hi) rfl (fun ls' hl' => kk p l e R s m args below meth c H locs cells slots MC MS ls' hC hB hR hS (xlh.set2 (v := xl a) hl.1 hp hl') (xok_set (xok_set hL (v := xl a) trivial) (v := xj) trivial) (xok_cons hst).2)
theorem xa_dstoreN {q : Fin 4} {i : Nat} {a : UInt64} (h : xd mi.2.1 pc (.dstore_n q) 1 pc') (hq : (q : Nat) = i) (hi : i + 1 < L.length) (hp : xpre L i) (kk : X w mi TG k n pc' ((L.set i (xv (.double a))).set (i + 1) xj) st S) : X w mi TG k n pc L (xv (.double a) :: st) S := by
  obtain ⟨hd, rfl⟩ := h
  intro p l e R s m args below meth c H locs cells slots MC MS ls hC hB hR hS hl hL hst
  exact lv_dstore_n hC.1 hC.2.1 hd hq hl.2 (by rw [← hl.1]; exact hi) rfl (fun ls' hl' => kk p l e R s m args below meth c H locs cells slots MC MS ls' hC hB hR hS (xlh.set2 (v := xv (.double a)) hl.1 hp hl') (xok_set (xok_set hL (v := xv (.double a)) trivial) (v := xj) trivial) (xok_cons hst).2)
theorem xa_dstore {i : Nat} {a : UInt64} (h : xd mi.2.1 pc (.dstore i) 2 pc') (hi : i + 1 < L.length) (hp : xpre L i) (kk : X w mi TG k n pc' ((L.set i (xv (.double a))).set (i + 1) xj) st S) : X w mi TG k n pc L (xv (.double a) :: st) S := by
  obtain ⟨hd, rfl⟩ := h
  intro p l e R s m args below meth c H locs cells slots MC MS ls hC hB hR hS hl hL hst
  exact lv_dstore hC.1 hC.2.1 hd hl.2 (by rw [← hl.1]; exact hi) rfl (fun ls' hl' => kk p l e R s m args below meth c H locs cells slots MC MS ls' hC hB hR hS (xlh.set2 (v := xv (.double a)) hl.1 hp hl') (xok_set (xok_set hL (v := xv (.double a)) trivial) (v := xj) trivial) (xok_cons hst).2)
theorem xa_astoreN {q : Fin 4} {i x y : Nat} (h : xd mi.2.1 pc (.astore_n q) 1 pc') (hq : (q : Nat) = i) (hi : i < L.length) (hp : xpre L i) (kk : X w mi TG k n pc' (L.set i (xp x y)) st S) : X w mi TG k n pc L (xp x y :: st) S := by
  obtain ⟨hd, rfl⟩ := h
  intro p l e R s m args below meth c H locs cells slots MC MS ls hC hB hR hS hl hL hst
  exact lv_astore_n hC.1 hC.2.1 hd hq hl.2 (by rw [← hl.1]; exact hi) rfl (fun ls' hl' => kk p l e R s m args below meth c H locs cells slots MC MS ls' hC hB hR hS (xlh.set1 (v := xp x y) hl.1 hp hl') (xok_set hL (xok_cons hst).1) (xok_cons hst).2)
theorem xa_astore {i x y : Nat} (h : xd mi.2.1 pc (.astore i) 2 pc') (hi : i < L.length) (hp : xpre L i) (kk : X w mi TG k n pc' (L.set i (xp x y)) st S) : X w mi TG k n pc L (xp x y :: st) S := by
  obtain ⟨hd, rfl⟩ := h
  intro p l e R s m args below meth c H locs cells slots MC MS ls hC hB hR hS hl hL hst
  exact lv_astore hC.1 hC.2.1 hd hl.2 (by rw [← hl.1]; exact hi) rfl (fun ls' hl' => kk p l e R s m args below meth c H locs cells slots MC MS ls' hC hB hR hS (xlh.set1 (v := xp x y) hl.1 hp hl') (xok_set hL (xok_cons hst).1) (xok_cons hst).2)
theorem xa_astoreNN {q : Fin 4} {i : Nat} (h : xd mi.2.1 pc (.astore_n q) 1 pc') (hq : (q : Nat) = i) (hi : i < L.length) (hp : xpre L i) (kk : X w mi TG k n pc' (L.set i (xv .null)) st S) : X w mi TG k n pc L (xv .null :: st) S := by
  obtain ⟨hd, rfl⟩ := h
  intro p l e R s m args below meth c H locs cells slots MC MS ls hC hB hR hS hl hL hst
  exact lv_astore_nN hC.1 hC.2.1 hd hq hl.2 (by rw [← hl.1]; exact hi) rfl (fun ls' hl' => kk p l e R s m args below meth c H locs cells slots MC MS ls' hC hB hR hS (xlh.set1 (v := xv .null) hl.1 hp hl') (xok_set hL (xok_cons hst).1) (xok_cons hst).2)
theorem xa_astoreX {i : Nat} (h : xd mi.2.1 pc (.astore i) 2 pc') (hi : i < L.length) (hp : xpre L i) (kk : X w mi TG k n pc' (L.set i (xv .null)) st S) : X w mi TG k n pc L (xv .null :: st) S := by
  obtain ⟨hd, rfl⟩ := h
  intro p l e R s m args below meth c H locs cells slots MC MS ls hC hB hR hS hl hL hst
  exact lv_astoreN hC.1 hC.2.1 hd hl.2 (by rw [← hl.1]; exact hi) rfl (fun ls' hl' => kk p l e R s m args below meth c H locs cells slots MC MS ls' hC hB hR hS (xlh.set1 (v := xv .null) hl.1 hp hl') (xok_set hL (xok_cons hst).1) (xok_cons hst).2)
/-- the caught exception's own reference: it is never used -/
theorem xa_astoreE {i q : Nat} (h : xd mi.2.1 pc (.astore i) 2 pc') (hi : i < L.length) (hp : xpre L i) (kk : X w mi TG k n pc' (L.set i (xv (.ref q))) st S) : X w mi TG k n pc L (xv (.ref q) :: st) S := by
  obtain ⟨hd, rfl⟩ := h
  intro p l e R s m args below meth c H locs cells slots MC MS ls hC hB hR hS hl hL hst
  exact lv_astore hC.1 hC.2.1 hd hl.2 (by rw [← hl.1]; exact hi) rfl (fun ls' hl' => kk p l e R s m args below meth c H locs cells slots MC MS ls' hC hB hR hS (xlh.set1 (v := xv (.ref q)) hl.1 hp hl') (xok_set hL (xok_cons hst).1) (xok_cons hst).2)
theorem xa_astoreNE {q : Fin 4} {i z : Nat} (h : xd mi.2.1 pc (.astore_n q) 1 pc') (hq : (q : Nat) = i) (hi : i < L.length) (hp : xpre L i) (kk : X w mi TG k n pc' (L.set i (xv (.ref z))) st S) : X w mi TG k n pc L (xv (.ref z) :: st) S := by
  obtain ⟨hd, rfl⟩ := h
  intro p l e R s m args below meth c H locs cells slots MC MS ls hC hB hR hS hl hL hst
  exact lv_astore_n hC.1 hC.2.1 hd hq hl.2 (by rw [← hl.1]; exact hi) rfl (fun ls' hl' => kk p l e R s m args below meth c H locs cells slots MC MS ls' hC hB hR hS (xlh.set1 (v := xv (.ref z)) hl.1 hp hl') (xok_set hL (xok_cons hst).1) (xok_cons hst).2)
theorem xa_iinc {i : Nat} {a d : Int} (h : xd mi.2.1 pc (.iinc i d) 3 pc') (hi : L[i]? = some (xi a)) (hp : xpre L i) (kk : X w mi TG k n pc' (L.set i (xi (a + d))) st S) : X w mi TG k n pc L st S := by
  obtain ⟨hd, rfl⟩ := h
  intro p l e R s m args below meth c H locs cells slots MC MS ls hC hB hR hS hl hL hst
  obtain ⟨q, hq⟩ := List.getElem?_of_mem (xpl_mem (ad := w.1) (L := L) (n := 0) (q := (i, xc w.1 (xi a))) |>.mpr ⟨i, xi a, by simp, hi, rfl, rfl⟩)
  have hlt : i < mi.2.2.1 := by rw [← hl.1]; exact (List.getElem?_eq_some_iff.mp hi).1
  exact lv_iinc (v := Int32.ofInt (a + d)) hC.1 hC.2.1 hd hl.2 (k := q) hq (Int32.ofInt_add a d).symm hlt rfl (fun ls' hl' => kk p l e R s m args below meth c H locs cells slots MC MS ls' hC hB hR hS (xlh.set1 (v := xi (a + d)) hl.1 hp hl') (xok_set hL (v := xi (a + d)) trivial) hst)
/-- what a place of the locals holds may be forgotten -/
theorem xa_junk (i : Nat) (kk : X w mi TG k n pc (L.set i xj) st S) : X w mi TG k n pc L st S := by
  intro p l e R s m args below meth c H locs cells slots MC MS ls hC hB hR hS hl hL hst
  refine kk p l e R s m args below meth c H locs cells slots MC MS ls hC hB hR hS ⟨by rw [List.length_set]; exact hl.1, hl.2.1, hl.2.2.1, fun q hq => ?_⟩ (xok_set hL (v := xj) trivial) hst
  obtain ⟨j, u, h1, h2, h3, h4⟩ := xpl_mem.mp hq
  by_cases hj : j = i
  · subst hj
    have hlt : j < L.length := by
      have := (List.getElem?_eq_some_iff.mp h2).1
      rwa [List.length_set] at this
    rw [List.getElem?_set_self hlt] at h2
    cases h2
    cases h3
  · rw [List.getElem?_set_ne (Ne.symm hj)] at h2
    exact hl.2.2.2 q (xpl_mem.mpr ⟨j, u, h1, h2, h3, h4⟩)
/-! arithmetic -/
theorem xa_iadd {a b : Int} (h : xd mi.2.1 pc .iadd 1 pc') (kk : X w mi TG k n pc' L (xi (a + b) :: st) S) : X w mi TG k n pc L (xi b :: xi a :: st) S := by
  obtain ⟨hd, rfl⟩ := h
  intro p l e R s m args below meth c H locs cells slots MC MS ls hC hB hR hS hl hL hst
  have h9 := kk p l e R s m args below meth c H locs cells slots MC MS ls hC hB hR hS hl hL (xok_of (v := xi (a + b)) trivial (xok_cons (xok_cons hst).2).2)
  rw [List.map_cons, show xc w.1 (xi (a + b)) = Value.int (Int32.ofInt a + Int32.ofInt b) from congrArg Value.int (Int32.ofInt_add a b)] at h9
  exact lv_iadd hC.1 hC.2.1 hd h9
theorem xa_isub {a b : Int} (h : xd mi.2.1 pc .isub 1 pc') (kk : X w mi TG k n pc' L (xi (a - b) :: st) S) : X w mi TG k n pc L (xi b :: xi a :: st) S := by
  obtain ⟨hd, rfl⟩ := h
  intro p l e R s m args below meth c H locs cells slots MC MS ls hC hB hR hS hl hL hst
  have h9 := kk p l e R s m args below meth c H locs cells slots MC MS ls hC hB hR hS hl hL (xok_of (v := xi (a - b)) trivial (xok_cons (xok_cons hst).2).2)
  rw [List.map_cons, show xc w.1 (xi (a - b)) = Value.int (Int32.ofInt a - Int32.ofInt b) from congrArg Value.int (Int32.ofInt_sub a b)] at h9
  exact lv_isub hC.1 hC.2.1 hd h9
theorem xa_imul {a b : Int} (h : xd mi.2.1 pc .imul 1 pc') (kk : X w mi TG k n pc' L (xi (a * b) :: st) S) : X w mi TG k n pc L (xi b :: xi a :: st) S := by
  obtain ⟨hd, rfl⟩ := h
  intro p l e R s m args below meth c H locs cells slots MC MS ls hC hB hR hS hl hL hst
  have h9 := kk p l e R s m args below meth c H locs cells slots MC MS ls hC hB hR hS hl hL (xok_of (v := xi (a * b)) trivial (xok_cons (xok_cons hst).2).2)
  rw [List.map_cons, show xc w.1 (xi (a * b)) = Value.int (Int32.ofInt a * Int32.ofInt b) from congrArg Value.int (Int32.ofInt_mul a b)] at h9
  exact lv_imul hC.1 hC.2.1 hd h9
theorem xa_ineg {a : Int} (h : xd mi.2.1 pc .ineg 1 pc') (kk : X w mi TG k n pc' L (xi (-a) :: st) S) : X w mi TG k n pc L (xi a :: st) S := by
  obtain ⟨hd, rfl⟩ := h
  intro p l e R s m args below meth c H locs cells slots MC MS ls hC hB hR hS hl hL hst
  have h9 := kk p l e R s m args below meth c H locs cells slots MC MS ls hC hB hR hS hl hL (xok_of (v := xi (-a)) trivial (xok_cons hst).2)
  rw [List.map_cons, show xc w.1 (xi (-a)) = Value.int (-Int32.ofInt a) from congrArg Value.int (Int32.ofInt_neg a)] at h9
  exact lv_ineg hC.1 hC.2.1 hd h9
theorem xa_ladd {a b : Int} (h : xd mi.2.1 pc .ladd 1 pc') (kk : X w mi TG k n pc' L (xl (a + b) :: st) S) : X w mi TG k n pc L (xl b :: xl a :: st) S := by
  obtain ⟨hd, rfl⟩ := h
  intro p l e R s m args below meth c H locs cells slots MC MS ls hC hB hR hS hl hL hst
  have h9 := kk p l e R s m args below meth c H locs cells slots MC MS ls hC hB hR hS hl hL (xok_of (v := xl (a + b)) trivial (xok_cons (xok_cons hst).2).2)
  rw [List.map_cons, show xc w.1 (xl (a + b)) = Value.long (Int64.ofInt a + Int64.ofInt b) from congrArg Value.long (Int64.ofInt_add a b)] at h9
  exact lv_ladd hC.1 hC.2.1 hd h9
theorem xa_lsub {a b : Int} (h : xd mi.2.1 pc .lsub 1 pc') (kk : X w mi TG k n pc' L (xl (a - b) :: st) S) : X w mi TG k n pc L (xl b :: xl a :: st) S := by
  obtain ⟨hd, rfl⟩ := h
  intro p l e R s m args below meth c H locs cells slots MC MS ls hC hB hR hS hl hL hst
  have h9 := kk p l e R s m args below meth c H locs cells slots MC MS ls hC hB hR hS hl hL (xok_of (v := xl (a - b)) trivial (xok_cons (xok_cons hst).2).2)
  rw [List.map_cons, show xc w.1 (xl (a - b)) = Value.long (Int64.ofInt a - Int64.ofInt b) from congrArg Value.long (Int64.ofInt_sub a b)] at h9
  exact lv_lsub hC.1 hC.2.1 hd h9
theorem xa_lmul {a b : Int} (h : xd mi.2.1 pc .lmul 1 pc') (kk : X w mi TG k n pc' L (xl (a * b) :: st) S) : X w mi TG k n pc L (xl b :: xl a :: st) S := by
  obtain ⟨hd, rfl⟩ := h
  intro p l e R s m args below meth c H locs cells slots MC MS ls hC hB hR hS hl hL hst
  have h9 := kk p l e R s m args below meth c H locs cells slots MC MS ls hC hB hR hS hl hL (xok_of (v := xl (a * b)) trivial (xok_cons (xok_cons hst).2).2)
  rw [List.map_cons, show xc w.1 (xl (a * b)) = Value.long (Int64.ofInt a * Int64.ofInt b) from congrArg Value.long (Int64.ofInt_mul a b)] at h9
  exact lv_lmul hC.1 hC.2.1 hd h9
theorem xn_i2l {a : Int} (ha : xr a) : (Int32.ofInt a).toInt64 = Int64.ofInt a := Int32.toInt64_ofInt (by show (-2147483648 : Int) ≤ a; exact ha.1) (by show a ≤ (2147483647 : Int); omega)
theorem xa_i2l {a : Int} (h : xd mi.2.1 pc .i2l 1 pc') (ha : xr a) (kk : X w mi TG k n pc' L (xl a :: st) S) : X w mi TG k n pc L (xi a :: st) S := by
  obtain ⟨hd, rfl⟩ := h
  intro p l e R s m args below meth c H locs cells slots MC MS ls hC hB hR hS hl hL hst
  exact lv_i2l hC.1 hC.2.1 hd (xn_i2l ha) (kk p l e R s m args below meth c H locs cells slots MC MS ls hC hB hR hS hl hL (xok_of (v := xl a) trivial (xok_cons hst).2))
theorem xa_l2i {a : Int} (h : xd mi.2.1 pc .l2i 1 pc') (kk : X w mi TG k n pc' L (xi a :: st) S) : X w mi TG k n pc L (xl a :: st) S := by
  obtain ⟨hd, rfl⟩ := h
  intro p l e R s m args below meth c H locs cells slots MC MS ls hC hB hR hS hl hL hst
  exact lv_l2i hC.1 hC.2.1 hd Int64.toInt32_ofInt (kk p l e R s m args below meth c H locs cells slots MC MS ls hC hB hR hS hl hL (xok_of (v := xi a) trivial (xok_cons hst).2))
theorem xn_ti {a : Int} (ha : xr a) : (Int32.ofInt a).toInt = a := Int32.toInt_ofInt_of_le (by omega) (by omega)
theorem xn_tl {a : Int} (ha : x64 a) : (Int64.ofInt a).toInt = a := Int64.toInt_ofInt_of_le (by omega) (by omega)
theorem xn_ne0 {b : Int} (hb : xr b) (h0 : b ≠ 0) : ¬ Int32.ofInt b = 0 := fun q => h0 (by rw [← xn_ti hb, q]; rfl)
theorem xn_ne0l {b : Int} (hb : x64 b) (h0 : b ≠ 0) : ¬ Int64.ofInt b = 0 := fun q => h0 (by rw [← xn_tl hb, q]; rfl)
theorem xa_idiv {a b : Int} (h : xd mi.2.1 pc .idiv 1 pc') (ha : xr a) (hb : xr b) (h0 : b ≠ 0) (kk : X w mi TG k n pc' L (xi (a.tdiv b) :: st) S) : X w mi TG k n pc L (xi b :: xi a :: st) S := by
  obtain ⟨hd, rfl⟩ := h
  intro p l e R s m args below meth c H locs cells slots MC MS ls hC hB hR hS hl hL hst
  have h9 := kk p l e R s m args below meth c H locs cells slots MC MS ls hC hB hR hS hl hL (xok_of (v := xi (a.tdiv b)) trivial (xok_cons (xok_cons hst).2).2)
  have e9 : Int32.ofInt (a.tdiv b) = Int32.ofInt a / Int32.ofInt b := Int32.ofInt_tdiv (by show (-2147483648 : Int) ≤ a; omega) (by show a ≤ (2147483647 : Int); omega) (by show (-2147483648 : Int) ≤ b; omega) (by show b ≤ (2147483647 : Int); omega)
  rw [List.map_cons, show xc w.1 (xi (a.tdiv b)) = Value.int (Int32.ofInt a / Int32.ofInt b) from congrArg Value.int e9] at h9
  exact lv_idiv hC.1 hC.2.1 hd (xn_ne0 hb h0) h9
end XR
end
section
/-! rows of the abstract machine, on: branches, arithmetic, fields, arrays -/
theorem xn_eq0 {a : Int} (ha : xr a) : Int32.ofInt a = 0 ↔ a = 0 := ⟨fun q => by rw [← xn_ti ha, q]; rfl, fun q => by rw [q]; rfl⟩
theorem xn_eq {a b : Int} (ha : xr a) (hb : xr b) : Int32.ofInt a = Int32.ofInt b ↔ a = b := ⟨fun q => by rw [← xn_ti ha, q, xn_ti hb], fun q => by rw [q]⟩
theorem xn_lt {a b : Int} (ha : xr a) (hb : xr b) : Int32.ofInt a < Int32.ofInt b ↔ a < b := by rw [Int32.lt_iff_toInt_lt, xn_ti ha, xn_ti hb]
theorem xn_le {a b : Int} (ha : xr a) (hb : xr b) : Int32.ofInt a ≤ Int32.ofInt b ↔ a ≤ b := by rw [Int32.le_iff_toInt_le, xn_ti ha, xn_ti hb]
theorem xn_0 : (0 : Int32) = Int32.ofInt 0 := by decide
theorem xn_r0 : xr 0 := by decide
theorem xn_nat {a : Int} (ha : xr a) (h0 : 0 ≤ a) : (Int32.ofInt a).toNatClampNeg = a.toNat := by
  rw [← Int32.toNat_toInt, xn_ti ha]
theorem xn_in {a : Int} {n : Nat} (h : 0 ≤ a ∧ a < n) (hn : n < 2147483648) : vp_in (Int32.ofInt a) n := by
  refine vp_in_iff.mpr ?_
  rw [xn_ti (by omega)]
  exact h
def xcmp (a b : Int) : Int := if b < a then 1 else if a = b then 0 else -1
theorem xn_cmp {a b : Int} (ha : x64 a) (hb : x64 b) : lg_cmp (Int64.ofInt a) (Int64.ofInt b) = Int32.ofInt (xcmp a b) := by
  unfold lg_cmp xcmp
  have h1 : (Int64.ofInt a > Int64.ofInt b) ↔ b < a := by
    show Int64.ofInt b < Int64.ofInt a ↔ _
    rw [Int64.lt_iff_toInt_lt, xn_tl ha, xn_tl hb]
  have h2 : (Int64.ofInt a = Int64.ofInt b) ↔ a = b := ⟨fun q => by rw [← xn_tl ha, q, xn_tl hb], fun q => by rw [q]⟩
  by_cases q : b < a
  · rw [if_pos (h1.mpr q), if_pos q]; rfl
  · rw [if_neg (fun z => q (h1.mp z)), if_neg q]
    by_cases q2 : a = b
    · rw [if_pos (h2.mpr q2), if_pos q2]; rfl
    · rw [if_neg (fun z => q2 (h2.mp z)), if_neg q2]; rfl
theorem xcmp_r (a b : Int) : xr (xcmp a b) := by
  unfold xcmp
  split
  · decide
  · split <;> decide
theorem xcmp_eq {a b : Int} : xcmp a b = 0 ↔ a = b := by unfold xcmp; split <;> (try split) <;> omega
theorem xcmp_lt {a b : Int} : xcmp a b < 0 ↔ a < b := by unfold xcmp; split <;> (try split) <;> omega
theorem xcmp_le {a b : Int} : xcmp a b ≤ 0 ↔ a ≤ b := by unfold xcmp; split <;> (try split) <;> omega
theorem xcmp_gt {a b : Int} : 0 < xcmp a b ↔ b < a := by unfold xcmp; split <;> (try split) <;> omega
theorem xcmp_ge {a b : Int} : 0 ≤ xcmp a b ↔ b ≤ a := by unfold xcmp; split <;> (try split) <;> omega
section XR2
variable {w : xW} {mi : xM} {TG : xT} {k n pc pc' : Nat} {L st : List xV} {S : xS}
theorem xa_irem {a b : Int} (h : xd mi.2.1 pc .irem 1 pc') (ha : xr a) (hb : xr b) (h0 : b ≠ 0) (kk : X w mi TG k n pc' L (xi (a.tmod b) :: st) S) : X w mi TG k n pc L (xi b :: xi a :: st) S := by
  obtain ⟨hd, rfl⟩ := h
  intro p l e R s m args below meth c H locs cells slots MC MS ls hC hB hR hS hl hL hst
  have h9 := kk p l e R s m args below meth c H locs cells slots MC MS ls hC hB hR hS hl hL (xok_of (v := xi (a.tmod b)) trivial (xok_cons (xok_cons hst).2).2)
  have e9 : Int32.ofInt (a.tdiv b) = Int32.ofInt a / Int32.ofInt b := Int32.ofInt_tdiv (by show (-2147483648 : Int) ≤ a; omega) (by show a ≤ (2147483647 : Int); omega) (by show (-2147483648 : Int) ≤ b; omega) (by show b ≤ (2147483647 : Int); omega)
  have e8 : Int32.ofInt (a.tmod b) = Int32.ofInt a - Int32.ofInt a / Int32.ofInt b * Int32.ofInt b := by
    rw [← e9, ← Int32.ofInt_mul, ← Int32.ofInt_sub, Int.tmod_def, Int.mul_comm]
  rw [List.map_cons, show xc w.1 (xi (a.tmod b)) = _ from congrArg Value.int e8] at h9
  exact lv_irem hC.1 hC.2.1 hd (xn_ne0 hb h0) h9
theorem xa_lrem {a b : Int} (h : xd mi.2.1 pc .lrem 1 pc') (ha : x64 a) (hb : x64 b) (h0 : b ≠ 0) (kk : X w mi TG k n pc' L (xl (a.tmod b) :: st) S) : X w mi TG k n pc L (xl b :: xl a :: st) S := by
  obtain ⟨hd, rfl⟩ := h
  intro p l e R s m args below meth c H locs cells slots MC MS ls hC hB hR hS hl hL hst
  have h9 := kk p l e R s m args below meth c H locs cells slots MC MS ls hC hB hR hS hl hL (xok_of (v := xl (a.tmod b)) trivial (xok_cons (xok_cons hst).2).2)
  have e9 : Int64.ofInt (a.tdiv b) = Int64.ofInt a / Int64.ofInt b := Int64.ofInt_tdiv (by show (-9223372036854775808 : Int) ≤ a; omega) (by show a ≤ (9223372036854775807 : Int); omega) (by show (-9223372036854775808 : Int) ≤ b; omega) (by show b ≤ (9223372036854775807 : Int); omega)
  have e8 : Int64.ofInt (a.tmod b) = Int64.ofInt a - Int64.ofInt a / Int64.ofInt b * Int64.ofInt b := by
    rw [← e9, ← Int64.ofInt_mul, ← Int64.ofInt_sub, Int.tmod_def, Int.mul_comm]
  rw [List.map_cons, show xc w.1 (xl (a.tmod b)) = _ from congrArg Value.long e8] at h9
  exact lv_lrem hC.1 hC.2.1 hd (xn_ne0l hb h0) h9
theorem xa_iand {a b : Int} (h : xd mi.2.1 pc .iand 1 pc') (kk : X w mi TG k n pc' L (xi (Int32.ofInt a &&& Int32.ofInt b).toInt :: st) S) : X w mi TG k n pc L (xi b :: xi a :: st) S := by
  obtain ⟨hd, rfl⟩ := h
  intro p l e R s m args below meth c H locs cells slots MC MS ls hC hB hR hS hl hL hst
  have h9 := kk p l e R s m args below meth c H locs cells slots MC MS ls hC hB hR hS hl hL (xok_of (v := xi (Int32.ofInt a &&& Int32.ofInt b).toInt) trivial (xok_cons (xok_cons hst).2).2)
  rw [List.map_cons, show xc w.1 (xi (Int32.ofInt a &&& Int32.ofInt b).toInt) = Value.int (Int32.ofInt a &&& Int32.ofInt b) from congrArg Value.int (Int32.ofInt_toInt _)] at h9
  exact lv_iand hC.1 hC.2.1 hd h9
theorem xa_ishr {a b : Int} (h : xd mi.2.1 pc .ishr 1 pc') (kk : X w mi TG k n pc' L (xi (Int32.ofInt a >>> (Int32.ofInt b &&& 31)).toInt :: st) S) : X w mi TG k n pc L (xi b :: xi a :: st) S := by
  obtain ⟨hd, rfl⟩ := h
  intro p l e R s m args below meth c H locs cells slots MC MS ls hC hB hR hS hl hL hst
  have h9 := kk p l e R s m args below meth c H locs cells slots MC MS ls hC hB hR hS hl hL (xok_of (v := xi (Int32.ofInt a >>> (Int32.ofInt b &&& 31)).toInt) trivial (xok_cons (xok_cons hst).2).2)
  rw [List.map_cons, show xc w.1 (xi (Int32.ofInt a >>> (Int32.ofInt b &&& 31)).toInt) = Value.int (Int32.ofInt a >>> (Int32.ofInt b &&& 31)) from congrArg Value.int (Int32.ofInt_toInt _)] at h9
  exact lv_ishr hC.1 hC.2.1 hd h9
theorem xa_i2b {a : Int} (h : xd mi.2.1 pc .i2b 1 pc') (kk : X w mi TG k n pc' L (xi (Int32.ofInt a).toInt8.toInt :: st) S) : X w mi TG k n pc L (xi a :: st) S := by
  obtain ⟨hd, rfl⟩ := h
  intro p l e R s m args below meth c H locs cells slots MC MS ls hC hB hR hS hl hL hst
  exact lv_i2b hC.1 hC.2.1 hd (v := Int32.ofInt (Int32.ofInt a).toInt8.toInt) rfl (kk p l e R s m args below meth c H locs cells slots MC MS ls hC hB hR hS hl hL (xok_of (v := xi (Int32.ofInt a).toInt8.toInt) trivial (xok_cons hst).2))
theorem xa_goto {off : Int} {tgt : Nat} (h : xd mi.2.1 pc (.goto off) 3 pc') (ht : (pc : Int) + off = (tgt : Int)) (kk : X w mi TG k n tgt L st S) : X w mi TG k n pc L st S := by
  obtain ⟨hd, rfl⟩ := h
  intro p l e R s m args below meth c H locs cells slots MC MS ls hC hB hR hS hl hL hst
  exact lv_goto hC.1 hC.2.1 hd ht (kk p l e R s m args below meth c H locs cells slots MC MS ls hC hB hR hS hl hL hst)
theorem xa_icmp_eq {a b : Int} {off : Int} {tgt : Nat} (h : xd mi.2.1 pc (.if_icmp .eq off) 3 pc') (ht : (pc : Int) + off = (tgt : Int)) (ha : xr a) (hb : xr b) (kt : a = b → X w mi TG k n tgt L st S) (kf : a ≠ b → X w mi TG k n pc' L st S) : X w mi TG k n pc L (xi b :: xi a :: st) S := by
  obtain ⟨hd, rfl⟩ := h
  intro p l e R s m args below meth c H locs cells slots MC MS ls hC hB hR hS hl hL hst
  have hst2 := (xok_cons (xok_cons hst).2).2
  exact lv_icmp_eq hC.1 hC.2.1 hd ht (fun z => (kt ((xn_eq ha hb).mp z) p l e R s m args below meth c H locs cells slots MC MS ls hC hB hR hS hl hL hst2)) (fun z => (kf (fun q => z ((xn_eq ha hb).mpr q)) p l e R s m args below meth c H locs cells slots MC MS ls hC hB hR hS hl hL hst2))
theorem xa_if_eq {a : Int} {off : Int} {tgt : Nat} (h : xd mi.2.1 pc (.ifCond .eq off) 3 pc') (ht : (pc : Int) + off = (tgt : Int)) (ha : xr a) (kt : a = 0 → X w mi TG k n tgt L st S) (kf : a ≠ 0 → X w mi TG k n pc' L st S) : X w mi TG k n pc L (xi a :: st) S := by
  obtain ⟨hd, rfl⟩ := h
  intro p l e R s m args below meth c H locs cells slots MC MS ls hC hB hR hS hl hL hst
  have hst2 := (xok_cons hst).2
  exact lv_if_eq hC.1 hC.2.1 hd ht (fun z => (kt ((xn_eq0 ha).mp z) p l e R s m args below meth c H locs cells slots MC MS ls hC hB hR hS hl hL hst2)) (fun z => (kf (fun q => z ((xn_eq0 ha).mpr q)) p l e R s m args below meth c H locs cells slots MC MS ls hC hB hR hS hl hL hst2))
theorem xa_icmp_ne {a b : Int} {off : Int} {tgt : Nat} (h : xd mi.2.1 pc (.if_icmp .ne off) 3 pc') (ht : (pc : Int) + off = (tgt : Int)) (ha : xr a) (hb : xr b) (kt : a ≠ b → X w mi TG k n tgt L st S) (kf : a = b → X w mi TG k n pc' L st S) : X w mi TG k n pc L (xi b :: xi a :: st) S := by
  obtain ⟨hd, rfl⟩ := h
  intro p l e R s m args below meth c H locs cells slots MC MS ls hC hB hR hS hl hL hst
  have hst2 := (xok_cons (xok_cons hst).2).2
  exact lv_icmp_ne hC.1 hC.2.1 hd ht (fun z => (kt (fun q => z ((xn_eq ha hb).mpr q)) p l e R s m args below meth c H locs cells slots MC MS ls hC hB hR hS hl hL hst2)) (fun z => (kf ((xn_eq ha hb).mp z) p l e R s m args below meth c H locs cells slots MC MS ls hC hB hR hS hl hL hst2))
theorem xa_if_ne {a : Int} {off : Int} {tgt : Nat} (h : xd mi.2.1 pc (.ifCond .ne off) 3 pc') (ht : (pc : Int) + off = (tgt : Int)) (ha : xr a) (kt : a ≠ 0 → X w mi TG k n tgt L st S) (kf : a = 0 → X w mi TG k n pc' L st S) : X w mi TG k n pc L (xi a :: st) S := by
  obtain ⟨hd, rfl⟩ := h
  intro p l e R s m args below meth c H locs cells slots MC MS ls hC hB hR hS hl hL hst
  have hst2 := (xok_cons hst).2
  exact lv_if_ne hC.1 hC.2.1 hd ht (fun z => (kt (fun q => z ((xn_eq0 ha).mpr q)) p l e R s m args below meth c H locs cells slots MC MS ls hC hB hR hS hl hL hst2)) (fun z => (kf ((xn_eq0 ha).mp z) p l e R s m args below meth c H locs cells slots MC MS ls hC hB hR hS hl hL hst2))
theorem xa_icmp_lt {a b : Int} {off : Int} {tgt : Nat} (h : xd mi.2.1 pc (.if_icmp .lt off) 3 pc') (ht : (pc : Int) + off = (tgt : Int)) (ha : xr a) (hb : xr b) (kt : a < b → X w mi TG k n tgt L st S) (kf : b ≤ a → X w mi TG k n pc' L st S) : X w mi TG k n pc L (xi b :: xi a :: st) S := by
  obtain ⟨hd, rfl⟩ := h
  intro p l e R s m args below meth c H locs cells slots MC MS ls hC hB hR hS hl hL hst
  have hst2 := (xok_cons (xok_cons hst).2).2
  exact lv_icmp_lt hC.1 hC.2.1 hd ht (fun z => (kt ((xn_lt ha hb).mp z) p l e R s m args below meth c H locs cells slots MC MS ls hC hB hR hS hl hL hst2)) (fun z => (kf (by have z2 : ¬ (a < b) := fun q => z ((xn_lt ha hb).mpr q); omega) p l e R s m args below meth c H locs cells slots MC MS ls hC hB hR hS hl hL hst2))
theorem xa_if_lt {a : Int} {off : Int} {tgt : Nat} (h : xd mi.2.1 pc (.ifCond .lt off) 3 pc') (ht : (pc : Int) + off = (tgt : Int)) (ha : xr a) (kt : a < 0 → X w mi TG k n tgt L st S) (kf : 0 ≤ a → X w mi TG k n pc' L st S) : X w mi TG k n pc L (xi a :: st) S := by
  obtain ⟨hd, rfl⟩ := h
  intro p l e R s m args below meth c H locs cells slots MC MS ls hC hB hR hS hl hL hst
  have hst2 := (xok_cons hst).2
  exact lv_if_lt hC.1 hC.2.1 hd ht (fun z => (kt ((xn_lt ha xn_r0).mp (by rw [← xn_0]; exact z)) p l e R s m args below meth c H locs cells slots MC MS ls hC hB hR hS hl hL hst2)) (fun z => (kf (by have z2 : ¬ (a < 0) := fun q => z (by have z3 := (xn_lt ha xn_r0).mpr q; rw [← xn_0] at z3; exact z3); omega) p l e R s m args below meth c H locs cells slots MC MS ls hC hB hR hS hl hL hst2))
theorem xa_icmp_ge {a b : Int} {off : Int} {tgt : Nat} (h : xd mi.2.1 pc (.if_icmp .ge off) 3 pc') (ht : (pc : Int) + off = (tgt : Int)) (ha : xr a) (hb : xr b) (kt : b ≤ a → X w mi TG k n tgt L st S) (kf : a < b → X w mi TG k n pc' L st S) : X w mi TG k n pc L (xi b :: xi a :: st) S := by
  obtain ⟨hd, rfl⟩ := h
  intro p l e R s m args below meth c H locs cells slots MC MS ls hC hB hR hS hl hL hst
  have hst2 := (xok_cons (xok_cons hst).2).2
  exact lv_icmp_ge hC.1 hC.2.1 hd ht (fun z => (kt ((xn_le hb ha).mp z) p l e R s m args below meth c H locs cells slots MC MS ls hC hB hR hS hl hL hst2)) (fun z => (kf (by have z2 : ¬ (b ≤ a) := fun q => z ((xn_le hb ha).mpr q); omega) p l e R s m args below meth c H locs cells slots MC MS ls hC hB hR hS hl hL hst2))
theorem xa_if_ge {a : Int} {off : Int} {tgt : Nat} (h : xd mi.2.1 pc (.ifCond .ge off) 3 pc') (ht : (pc : Int) + off = (tgt : Int)) (ha : xr a) (kt : 0 ≤ a → X w mi TG k n tgt L st S) (kf : a < 0 → X w mi TG k n pc' L st S) : X w mi TG k n pc L (xi a :: st) S := by
  obtain ⟨hd, rfl⟩ := h
  intro p l e R s m args below meth c H locs cells slots MC MS ls hC hB hR hS hl hL hst
  have hst2 := (xok_cons hst).2
  exact lv_if_ge hC.1 hC.2.1 hd ht (fun z => (kt ((xn_le xn_r0 ha).mp (by rw [← xn_0]; exact z)) p l e R s m args below meth c H locs cells slots MC MS ls hC hB hR hS hl hL hst2)) (fun z => (kf (by have z2 : ¬ (0 ≤ a) := fun q => z (by have z3 := (xn_le xn_r0 ha).mpr q; rw [← xn_0] at z3; exact z3); omega) p l e R s m args below meth c H locs cells slots MC MS ls hC hB hR hS hl hL hst2))
theorem xa_icmp_gt {a b : Int} {off : Int} {tgt : Nat} (h : xd mi.2.1 pc (.if_icmp .gt off) 3 pc') (ht : (pc : Int) + off = (tgt : Int)) (ha : xr a) (hb : xr b) (kt : b < a → X w mi TG k n tgt L st S) (kf : a ≤ b → X w mi TG k n pc' L st S) : X w mi TG k n pc L (xi b :: xi a :: st) S := by
  obtain ⟨hd, rfl⟩ := h
  intro p l e R s m args below meth c H locs cells slots MC MS ls hC hB hR hS hl hL hst
  have hst2 := (xok_cons (xok_cons hst).2).2
  exact lv_icmp_gt hC.1 hC.2.1 hd ht (fun z => (kt ((xn_lt hb ha).mp z) p l e R s m args below meth c H locs cells slots MC MS ls hC hB hR hS hl hL hst2)) (fun z => (kf (by have z2 : ¬ (b < a) := fun q => z ((xn_lt hb ha).mpr q); omega) p l e R s m args below meth c H locs cells slots MC MS ls hC hB hR hS hl hL hst2))
theorem xa_if_gt {a : Int} {off : Int} {tgt : Nat} (h : xd mi.2.1 pc (.ifCond .gt off) 3 pc') (ht : (pc : Int) + off = (tgt : Int)) (ha : xr a) (kt : 0 < a → X w mi TG k n tgt L st S) (kf : a ≤ 0 → X w mi TG k n pc' L st S) : X w mi TG k n pc L (xi a :: st) S := by
  obtain ⟨hd, rfl⟩ := h
  intro p l e R s m args below meth c H locs cells slots MC MS ls hC hB hR hS hl hL hst
  have hst2 := (xok_cons hst).2
  exact lv_if_gt hC.1 hC.2.1 hd ht (fun z => (kt ((xn_lt xn_r0 ha).mp (by rw [← xn_0]; exact z)) p l e R s m args below meth c H locs cells slots MC MS ls hC hB hR hS hl hL hst2)) (fun z => (kf (by have z2 : ¬ (0 < a) := fun q => z (by have z3 := (xn_lt xn_r0 ha).mpr q; rw [← xn_0] at z3; exact z3); omega) p l e R s m args below meth c H locs cells slots MC MS ls hC hB hR hS hl hL hst2))
theorem xa_icmp_le {a b : Int} {off : Int} {tgt : Nat} (h : xd mi.2.1 pc (.if_icmp .le off) 3 pc') (ht : (pc : Int) + off = (tgt : Int)) (ha : xr a) (hb : xr b) (kt : a ≤ b → X w mi TG k n tgt L st S) (kf : b < a → X w mi TG k n pc' L st S) : X w mi TG k n pc L (xi b :: xi a :: st) S := by
  obtain ⟨hd, rfl⟩ := h
  intro p l e R s m args below meth c H locs cells slots MC MS ls hC hB hR hS hl hL hst
  have hst2 := (xok_cons (xok_cons hst).2).2
  exact lv_icmp_le hC.1 hC.2.1 hd ht (fun z => (kt ((xn_le ha hb).mp z) p l e R s m args below meth c H locs cells slots MC MS ls hC hB hR hS hl hL hst2)) (fun z => (kf (by have z2 : ¬ (a ≤ b) := fun q => z ((xn_le ha hb).mpr q); omega) p l e R s m args below meth c H locs cells slots MC MS ls hC hB hR hS hl hL hst2))
theorem xa_if_le {a : Int} {off : Int} {tgt : Nat} (h : xd mi.2.1 pc (.ifCond .le off) 3 pc') (ht : (pc : Int) + off = (tgt : Int)) (ha : xr a) (kt : a ≤ 0 → X w mi TG k n tgt L st S) (kf : 0 < a → X w mi TG k n pc' L st S) : X w mi TG k n pc L (xi a :: st) S := by
  obtain ⟨hd, rfl⟩ := h
  intro p l e R s m args below meth c H locs cells slots MC MS ls hC hB hR hS hl hL hst
  have hst2 := (xok_cons hst).2
  exact lv_if_le hC.1 hC.2.1 hd ht (fun z => (kt ((xn_le ha xn_r0).mp (by rw [← xn_0]; exact z)) p l e R s m args below meth c H locs cells slots MC MS ls hC hB hR hS hl hL hst2)) (fun z => (kf (by have z2 : ¬ (a ≤ 0) := fun q => z (by have z3 := (xn_le ha xn_r0).mpr q; rw [← xn_0] at z3; exact z3); omega) p l e R s m args below meth c H locs cells slots MC MS ls hC hB hR hS hl hL hst2))
theorem xa_lcmp {a b : Int} (h : xd mi.2.1 pc .lcmp 1 pc') (ha : x64 a) (hb : x64 b) (kk : X w mi TG k n pc' L (xi (xcmp a b) :: st) S) : X w mi TG k n pc L (xl b :: xl a :: st) S := by
  obtain ⟨hd, rfl⟩ := h
  intro p l e R s m args below meth c H locs cells slots MC MS ls hC hB hR hS hl hL hst
  have h9 := kk p l e R s m args below meth c H locs cells slots MC MS ls hC hB hR hS hl hL (xok_of (v := xi (xcmp a b)) trivial (xok_cons (xok_cons hst).2).2)
  rw [List.map_cons, show xc w.1 (xi (xcmp a b)) = Value.int (lg_cmp (Int64.ofInt a) (Int64.ofInt b)) from congrArg Value.int (xn_cmp ha hb).symm] at h9
  exact W.lcmp hC.1 hC.2.1 hd h9
theorem xa_ifc_eq {a b : Int} {off : Int} {tgt : Nat} (h : xd mi.2.1 pc (.ifCond .eq off) 3 pc') (ht : (pc : Int) + off = (tgt : Int)) (kt : a = b → X w mi TG k n tgt L st S) (kf : a ≠ b → X w mi TG k n pc' L st S) : X w mi TG k n pc L (xi (xcmp a b) :: st) S :=
  xa_if_eq h ht (xcmp_r a b) (fun z => (kt (xcmp_eq.mp z))) (fun z => (kf (fun q => z (xcmp_eq.mpr q))))
theorem xa_ifc_ne {a b : Int} {off : Int} {tgt : Nat} (h : xd mi.2.1 pc (.ifCond .ne off) 3 pc') (ht : (pc : Int) + off = (tgt : Int)) (kt : a ≠ b → X w mi TG k n tgt L st S) (kf : a = b → X w mi TG k n pc' L st S) : X w mi TG k n pc L (xi (xcmp a b) :: st) S :=
  xa_if_ne h ht (xcmp_r a b) (fun z => (kt (fun q => z (xcmp_eq.mpr q)))) (fun z => (kf (xcmp_eq.mp z)))
theorem xa_ifc_lt {a b : Int} {off : Int} {tgt : Nat} (h : xd mi.2.1 pc (.ifCond .lt off) 3 pc') (ht : (pc : Int) + off = (tgt : Int)) (kt : a < b → X w mi TG k n tgt L st S) (kf : b ≤ a → X w mi TG k n pc' L st S) : X w mi TG k n pc L (xi (xcmp a b) :: st) S :=
  xa_if_lt h ht (xcmp_r a b) (fun z => (kt (xcmp_lt.mp z))) (fun z => (kf (by have z2 : ¬ (a < b) := fun q => absurd (xcmp_lt.mpr q) (by omega); omega)))
theorem xa_ifc_ge {a b : Int} {off : Int} {tgt : Nat} (h : xd mi.2.1 pc (.ifCond .ge off) 3 pc') (ht : (pc : Int) + off = (tgt : Int)) (kt : b ≤ a → X w mi TG k n tgt L st S) (kf : a < b → X w mi TG k n pc' L st S) : X w mi TG k n pc L (xi (xcmp a b) :: st) S :=
  xa_if_ge h ht (xcmp_r a b) (fun z => (kt (xcmp_ge.mp z))) (fun z => (kf (by have z2 : ¬ (b ≤ a) := fun q => absurd (xcmp_ge.mpr q) (by omega); omega)))
theorem xa_ifc_gt {a b : Int} {off : Int} {tgt : Nat} (h : xd mi.2.1 pc (.ifCond .gt off) 3 pc') (ht : (pc : Int) + off = (tgt : Int)) (kt : b < a → X w mi TG k n tgt L st S) (kf : a ≤ b → X w mi TG k n pc' L st S) : X w mi TG k n pc L (xi (xcmp a b) :: st) S :=
  xa_if_gt h ht (xcmp_r a b) (fun z => (kt (xcmp_gt.mp z))) (fun z => (kf (by have z2 : ¬ (b < a) := fun q => absurd (xcmp_gt.mpr q) (by omega); omega)))
theorem xa_ifc_le {a b : Int} {off : Int} {tgt : Nat} (h : xd mi.2.1 pc (.ifCond .le off) 3 pc') (ht : (pc : Int) + off = (tgt : Int)) (kt : a ≤ b → X w mi TG k n tgt L st S) (kf : b < a → X w mi TG k n pc' L st S) : X w mi TG k n pc L (xi (xcmp a b) :: st) S :=
  xa_if_le h ht (xcmp_r a b) (fun z => (kt (xcmp_le.mp z))) (fun z => (kf (by have z2 : ¬ (a ≤ b) := fun q => absurd (xcmp_le.mpr q) (by omega); omega)))
theorem xa_ifnullP {x y : Nat} {off : Int} (h : xd mi.2.1 pc (.ifnull off) 3 pc') (kk : X w mi TG k n pc' L st S) : X w mi TG k n pc L (xp x y :: st) S := by
  obtain ⟨hd, rfl⟩ := h
  intro p l e R s m args below meth c H locs cells slots MC MS ls hC hB hR hS hl hL hst
  exact lv_ifnull hC.1 hC.2.1 hd (kk p l e R s m args below meth c H locs cells slots MC MS ls hC hB hR hS hl hL (xok_cons hst).2)
theorem xa_ifnullN {off : Int} {tgt : Nat} (h : xd mi.2.1 pc (.ifnull off) 3 pc') (ht : (pc : Int) + off = (tgt : Int)) (kk : X w mi TG k n tgt L st S) : X w mi TG k n pc L (xv .null :: st) S := by
  obtain ⟨hd, rfl⟩ := h
  intro p l e R s m args below meth c H locs cells slots MC MS ls hC hB hR hS hl hL hst
  exact lv_ifnullN hC.1 hC.2.1 hd ht (kk p l e R s m args below meth c H locs cells slots MC MS ls hC hB hR hS hl hL (xok_cons hst).2)
theorem xa_ifnonnullP {x y : Nat} {off : Int} {tgt : Nat} (h : xd mi.2.1 pc (.ifnonnull off) 3 pc') (ht : (pc : Int) + off = (tgt : Int)) (kk : X w mi TG k n tgt L st S) : X w mi TG k n pc L (xp x y :: st) S := by
  obtain ⟨hd, rfl⟩ := h
  intro p l e R s m args below meth c H locs cells slots MC MS ls hC hB hR hS hl hL hst
  exact lv_ifnonnull hC.1 hC.2.1 hd ht (kk p l e R s m args below meth c H locs cells slots MC MS ls hC hB hR hS hl hL (xok_cons hst).2)
theorem xa_ifnonnullN {off : Int} (h : xd mi.2.1 pc (.ifnonnull off) 3 pc') (kk : X w mi TG k n pc' L st S) : X w mi TG k n pc L (xv .null :: st) S := by
  obtain ⟨hd, rfl⟩ := h
  intro p l e R s m args below meth c H locs cells slots MC MS ls hC hB hR hS hl hL hst
  exact lv_ifnonnullN hC.1 hC.2.1 hd (kk p l e R s m args below meth c H locs cells slots MC MS ls hC hB hR hS hl hL (xok_cons hst).2)
theorem xn_cat1 {ad : Nat → Nat → Nat} {v : xV} (h : xcat2 v = false) : (xc ad v).category = 1 := by
  rcases lv_cat (xc ad v) with q | q
  · exact q
  · exact absurd q (xcat_of h)
theorem xa_dup {v : xV} (h : xd mi.2.1 pc .dup 1 pc') (hv : xcat2 v = false) (kk : X w mi TG k n pc' L (v :: v :: st) S) : X w mi TG k n pc L (v :: st) S := by
  obtain ⟨hd, rfl⟩ := h
  intro p l e R s m args below meth c H locs cells slots MC MS ls hC hB hR hS hl hL hst
  exact lv_dup hC.1 hC.2.1 hd (xn_cat1 hv) (kk p l e R s m args below meth c H locs cells slots MC MS ls hC hB hR hS hl hL (xok_of (xok_cons hst).1 hst))
theorem xa_dup2 {u v : xV} (h : xd mi.2.1 pc .dup2 1 pc') (hu : xcat2 u = false) (hv : xcat2 v = false) (kk : X w mi TG k n pc' L (u :: v :: u :: v :: st) S) : X w mi TG k n pc L (u :: v :: st) S := by
  obtain ⟨hd, rfl⟩ := h
  intro p l e R s m args below meth c H locs cells slots MC MS ls hC hB hR hS hl hL hst
  exact lv_dup2_11 hC.1 hC.2.1 hd (xn_cat1 hu) (xn_cat1 hv) (kk p l e R s m args below meth c H locs cells slots MC MS ls hC hB hR hS hl hL (xok_of (xok_cons hst).1 (xok_of (xok_cons (xok_cons hst).2).1 hst)))
theorem xa_pop {v : xV} (h : xd mi.2.1 pc .pop 1 pc') (hv : xcat2 v = false) (kk : X w mi TG k n pc' L st S) : X w mi TG k n pc L (v :: st) S := by
  obtain ⟨hd, rfl⟩ := h
  intro p l e R s m args below meth c H locs cells slots MC MS ls hC hB hR hS hl hL hst
  exact lv_pop hC.1 hC.2.1 hd (xn_cat1 hv) (kk p l e R s m args below meth c H locs cells slots MC MS ls hC hB hR hS hl hL (xok_cons hst).2)
/-- every number of the store is in its range -/
theorem xa_wr (kk : xWR S → X w mi TG k n pc L st S) : X w mi TG k n pc L st S := by
  intro p l e R s m args below meth c H locs cells slots MC MS ls hC hB hR hS hl hL hst
  exact kk hR.2.2 p l e R s m args below meth c H locs cells slots MC MS ls hC hB hR hS hl hL hst
theorem xa_okL {i x y : Nat} (hi : L[i]? = some (xp x y)) (kk : xval x y = true → X w mi TG k n pc L st S) : X w mi TG k n pc L st S := by
  intro p l e R s m args below meth c H locs cells slots MC MS ls hC hB hR hS hl hL hst
  exact kk (xok_at hL hi) p l e R s m args below meth c H locs cells slots MC MS ls hC hB hR hS hl hL hst
theorem xa_okS {i x y : Nat} (hi : st[i]? = some (xp x y)) (kk : xval x y = true → X w mi TG k n pc L st S) : X w mi TG k n pc L st S := by
  intro p l e R s m args below meth c H locs cells slots MC MS ls hC hB hR hS hl hL hst
  exact kk (xok_at hst hi) p l e R s m args below meth c H locs cells slots MC MS ls hC hB hR hS hl hL hst
/-! fields -/
theorem xa_getG {x y f ci index N : Nat} {v : xV} {C : String} {T : u_T} {fs : List Value} (h : xd mi.2.1 pc (.getfield index) 3 pc') (hw : Cond.fieldLink mi.1 index (T f).1 (T f).2.1 (T f).2.2.1 ∈ xtb) (hin : ∀ w ∈ u_ws C T N, w ∈ xtb) (hc : vwCl[ci]? = some (C, T, N)) (hf : f < N) (hx : x < 50)
    (hce : xce w x y (S x y) = .inr (ci, fs)) (hv : fs[f]? = some (xc w.1 v)) (hok : xval x y = true → xok v) (kk : X w mi TG k n pc' L (v :: st) S) : X w mi TG k n pc L (xp x y :: st) S := by
  obtain ⟨hd, rfl⟩ := h
  intro p l e R s m args below meth c H locs cells slots MC MS ls hC hB hR hS hl hL hst
  have hxy : xval x y = true := (xok_cons hst).1
  obtain ⟨i, -, hi⟩ := xwl_at hxy hx
  exact va_get (D := w.2.1) (cl := vwCl) (ws := xwl w S) (ref := (T f).1) hC.1 hC.2.1 hC.2.2.2.2.2.1 hin hC.2.2.2.2.1 hC.2.2.2.2.2.2.2.2.2.2.1 hR.1 i ((hi w S).trans (by rw [hce])) hc f hf (hC.2.2.2.2.2.1 _ hw) (fun _ h9 => h9) hv hd (kk p l e R s m args below meth c H locs cells slots MC MS ls hC hB hR hS hl hL (xok_of (hok hxy) (xok_cons hst).2))
theorem xa_putG {x y f ci index N : Nat} {v : Int} {u : xV} {ty : FieldType} {ty0 : Nat → FieldType} {C : String} {T : u_T} {fs : List Value} (h : xd mi.2.1 pc (.putfield index) 3 pc') (hw : Cond.fieldLink mi.1 index (T f).1 (T f).2.1 (T f).2.2.1 ∈ xtb) (hin : ∀ w ∈ u_ws C T N, w ∈ xtb) (hty : ∀ k, k < N → parseFieldDescriptor (T k).2.2.1 = some (ty0 k)) (hnm : ∀ a, a < N → ∀ b, b < N → a ≠ b → (T a).2.1 ≠ (T b).2.1) (hc : vwCl[ci]? = some (C, T, N)) (hf : f < N) (hx : x < 50)
    (hce : xce w x y (S x y) = .inr (ci, fs)) (hce2 : xce w x y (up S x y f v x y) = .inr (ci, fs.set f (xc w.1 u))) (hfin : (T f).2.2.2 = false) (hdt : parseFieldDescriptor (T f).2.2.1 = some ty) (hn : narrow ty (xc w.1 u) = xc w.1 u) (hfit : fits ty (xc w.1 u) = true) (hl0 : f < fs.length) (h64 : x64 v) (h32 : xlng x f = false → xr v)
    (kk : X w mi TG k n pc' L st (up S x y f v)) : X w mi TG k n pc L (u :: xp x y :: st) S := by
  obtain ⟨hd, rfl⟩ := h
  intro p l e R s m args below meth c H locs cells slots MC MS ls hC hB hR hS hl hL hst
  have hst2 := (xok_cons hst).2
  have hxy : xval x y = true := (xok_cons hst2).1
  obtain ⟨i, hi0, hi⟩ := xwl_at hxy hx
  refine va_put (D := w.2.1) (cl := vwCl) (ws := xwl w S) (ref := (T f).1) hC.1 hC.2.1 hC.2.2.2.2.2.1 hin ty0 hty hnm hC.2.2.2.2.1 hC.2.2.2.2.2.2.2.2.2.2.1 hR.1 hR.2.1 hS i ((hi w S).trans (by rw [hce])) hc f hf (hC.2.2.2.2.2.1 _ hw) (fun _ h9 => h9) hfin hdt hn hfit hl0 hd (fun H1 locs1 hP1 hD1 hS1 => ?_)
  rw [← hce2] at hP1 hD1
  exact kk p l e R s m args below meth c H1 locs1 cells slots MC MS ls hC hB (xRep.upd hi0 (fun k' j' h9 => up_oth h9) (hR.2.2.up x y f h64 h32) hP1 hD1) hS1 hl hL (xok_cons hst2).2
/-! arrays -/
theorem xa_iald {x y N : Nat} {a : Int} (h : xd mi.2.1 pc .iaload 1 pc') (hx : x < 50) (hce : ∀ F, xce w x y F = .inl (w.2.2.1 0, (N, .inl fun f => Int32.ofInt (F f)))) (ha : 0 ≤ a ∧ a < N) (hN : N < 2147483648) (kk : X w mi TG k n pc' L (xi (S x y a.toNat) :: st) S) : X w mi TG k n pc L (xi a :: xp x y :: st) S := by
  obtain ⟨hd, rfl⟩ := h
  intro p l e R s m args below meth c H locs cells slots MC MS ls hC hB hR hS hl hL hst
  have hst2 := (xok_cons hst).2
  have hxy : xval x y = true := (xok_cons hst2).1
  obtain ⟨i, -, hi⟩ := xwl_at hxy hx
  have h9 := kk p l e R s m args below meth c H locs cells slots MC MS ls hC hB hR hS hl hL (xok_of (v := xi (S x y a.toNat)) trivial (xok_cons hst2).2)
  rw [← xn_nat (a := a) (by omega) ha.1] at h9
  exact va_iald (f := fun f => Int32.ofInt (S x y f)) (D := w.2.1) (cl := vwCl) (ws := xwl w S) (tys := xtys w) hC.1 hC.2.1 hC.2.2.2.2.2.2.2.2.2.2.1 hR.1 i 0 ((hi w S).trans (by rw [hce])) rfl (xn_in ha hN) hd h9
theorem xa_iast {x y N : Nat} {a v : Int} (h : xd mi.2.1 pc .iastore 1 pc') (hx : x < 50) (hce : ∀ F, xce w x y F = .inl (w.2.2.1 0, (N, .inl fun f => Int32.ofInt (F f)))) (ha : 0 ≤ a ∧ a < N) (hN : N < 2147483648) (hv : xr v)  (kk : X w mi TG k n pc' L st (up S x y a.toNat v)) : X w mi TG k n pc L (xi v :: xi a :: xp x y :: st) S := by
  obtain ⟨hd, rfl⟩ := h
  intro p l e R s m args below meth c H locs cells slots MC MS ls hC hB hR hS hl hL hst
  have hst2 := (xok_cons (xok_cons hst).2).2
  have hxy : xval x y = true := (xok_cons hst2).1
  obtain ⟨i, hi0, hi⟩ := xwl_at hxy hx
  refine va_iast (f := fun f => Int32.ofInt (S x y f)) (D := w.2.1) (cl := vwCl) (ws := xwl w S) (tys := xtys w) hC.1 hC.2.1 hC.2.2.2.2.2.2.2.2.2.2.1 hR.1 hR.2.1 hS i 0 ((hi w S).trans (by rw [hce])) rfl (xn_in ha hN) hd (fun H1 locs1 hP1 hD1 hS1 => ?_)
  have e9 : (Sum.inl (w.2.2.1 0, (N, .inl (upd (fun f => Int32.ofInt (S x y f)) (Int32.ofInt a).toNatClampNeg (Int32.ofInt v)))) : va_E) = xce w x y (up S x y a.toNat v x y) := by
    rw [hce, up_row]
    refine congrArg (fun z => (Sum.inl (w.2.2.1 0, (N, .inl (z))) : va_E)) ?_
    funext q
    show (if q = (Int32.ofInt a).toNatClampNeg then Int32.ofInt v else Int32.ofInt (S x y q)) = Int32.ofInt (if q = a.toNat then v else S x y q)
    rw [xn_nat (a := a) (by omega) ha.1]
    by_cases hq : q = a.toNat
    · rw [if_pos hq, if_pos hq]
    · rw [if_neg hq, if_neg hq]
  rw [e9] at hP1 hD1
  exact kk p l e R s m args below meth c H1 locs1 cells slots MC MS ls hC hB (xRep.upd hi0 (fun k' j' h9 => up_oth h9) (hR.2.2.up x y a.toNat (by omega) (fun _ => hv)) hP1 hD1) hS1 hl hL (xok_cons hst2).2
theorem xa_lald {x y N : Nat} {a : Int} (h : xd mi.2.1 pc .laload 1 pc') (hx : x < 50) (hce : ∀ F, xce w x y F = .inl (w.2.2.1 1, (N, .inr (.inl fun f => Int64.ofInt (F f))))) (ha : 0 ≤ a ∧ a < N) (hN : N < 2147483648) (kk : X w mi TG k n pc' L (xl (S x y a.toNat) :: st) S) : X w mi TG k n pc L (xi a :: xp x y :: st) S := by
  obtain ⟨hd, rfl⟩ := h
  intro p l e R s m args below meth c H locs cells slots MC MS ls hC hB hR hS hl hL hst
  have hst2 := (xok_cons hst).2
  have hxy : xval x y = true := (xok_cons hst2).1
  obtain ⟨i, -, hi⟩ := xwl_at hxy hx
  have h9 := kk p l e R s m args below meth c H locs cells slots MC MS ls hC hB hR hS hl hL (xok_of (v := xl (S x y a.toNat)) trivial (xok_cons hst2).2)
  rw [← xn_nat (a := a) (by omega) ha.1] at h9
  exact va_lald (f := fun f => Int64.ofInt (S x y f)) (D := w.2.1) (cl := vwCl) (ws := xwl w S) (tys := xtys w) hC.1 hC.2.1 hC.2.2.2.2.2.2.2.2.2.2.1 hR.1 i 1 ((hi w S).trans (by rw [hce])) rfl (xn_in ha hN) hd h9
theorem xa_last {x y N : Nat} {a v : Int} (h : xd mi.2.1 pc .lastore 1 pc') (hx : x < 50) (hce : ∀ F, xce w x y F = .inl (w.2.2.1 1, (N, .inr (.inl fun f => Int64.ofInt (F f))))) (ha : 0 ≤ a ∧ a < N) (hN : N < 2147483648) (hv : x64 v) (hlg : xlng x a.toNat = true) (kk : X w mi TG k n pc' L st (up S x y a.toNat v)) : X w mi TG k n pc L (xl v :: xi a :: xp x y :: st) S := by
  obtain ⟨hd, rfl⟩ := h
  intro p l e R s m args below meth c H locs cells slots MC MS ls hC hB hR hS hl hL hst
  have hst2 := (xok_cons (xok_cons hst).2).2
  have hxy : xval x y = true := (xok_cons hst2).1
  obtain ⟨i, hi0, hi⟩ := xwl_at hxy hx
  refine va_last (f := fun f => Int64.ofInt (S x y f)) (D := w.2.1) (cl := vwCl) (ws := xwl w S) (tys := xtys w) hC.1 hC.2.1 hC.2.2.2.2.2.2.2.2.2.2.1 hR.1 hR.2.1 hS i 1 ((hi w S).trans (by rw [hce])) rfl (xn_in ha hN) hd (fun H1 locs1 hP1 hD1 hS1 => ?_)
  have e9 : (Sum.inl (w.2.2.1 1, (N, .inr (.inl (vp_updL (fun f => Int64.ofInt (S x y f)) (Int32.ofInt a).toNatClampNeg (Int64.ofInt v))))) : va_E) = xce w x y (up S x y a.toNat v x y) := by
    rw [hce, up_row]
    refine congrArg (fun z => (Sum.inl (w.2.2.1 1, (N, .inr (.inl (z)))) : va_E)) ?_
    funext q
    show (if q = (Int32.ofInt a).toNatClampNeg then Int64.ofInt v else Int64.ofInt (S x y q)) = Int64.ofInt (if q = a.toNat then v else S x y q)
    rw [xn_nat (a := a) (by omega) ha.1]
    by_cases hq : q = a.toNat
    · rw [if_pos hq, if_pos hq]
    · rw [if_neg hq, if_neg hq]
  rw [e9] at hP1 hD1
  exact kk p l e R s m args below meth c H1 locs1 cells slots MC MS ls hC hB (xRep.upd hi0 (fun k' j' h9 => up_oth h9) (hR.2.2.up x y a.toNat hv (fun z => absurd hlg (by rw [z]; decide))) hP1 hD1) hS1 hl hL (xok_cons hst2).2
theorem xa_zald {x y N : Nat} {a : Int} (h : xd mi.2.1 pc .baload 1 pc') (hx : x < 50) (hce : ∀ F, xce w x y F = .inl (w.2.2.1 2, (N, .inl fun f => Int32.ofInt (F f)))) (ha : 0 ≤ a ∧ a < N) (hN : N < 2147483648) (kk : X w mi TG k n pc' L (xi (S x y a.toNat) :: st) S) : X w mi TG k n pc L (xi a :: xp x y :: st) S := by
  obtain ⟨hd, rfl⟩ := h
  intro p l e R s m args below meth c H locs cells slots MC MS ls hC hB hR hS hl hL hst
  have hst2 := (xok_cons hst).2
  have hxy : xval x y = true := (xok_cons hst2).1
  obtain ⟨i, -, hi⟩ := xwl_at hxy hx
  have h9 := kk p l e R s m args below meth c H locs cells slots MC MS ls hC hB hR hS hl hL (xok_of (v := xi (S x y a.toNat)) trivial (xok_cons hst2).2)
  rw [← xn_nat (a := a) (by omega) ha.1] at h9
  exact va_zald (f := fun f => Int32.ofInt (S x y f)) (D := w.2.1) (cl := vwCl) (ws := xwl w S) (tys := xtys w) hC.1 hC.2.1 hC.2.2.2.2.2.2.2.2.2.2.1 hR.1 i 2 ((hi w S).trans (by rw [hce])) rfl (xn_in ha hN) hd h9
theorem xa_zast {x y N : Nat} {a v : Int} (h : xd mi.2.1 pc .bastore 1 pc') (hx : x < 50) (hce : ∀ F, xce w x y F = .inl (w.2.2.1 2, (N, .inl fun f => Int32.ofInt (F f)))) (ha : 0 ≤ a ∧ a < N) (hN : N < 2147483648) (hv : v = 0 ∨ v = 1)  (kk : X w mi TG k n pc' L st (up S x y a.toNat v)) : X w mi TG k n pc L (xi v :: xi a :: xp x y :: st) S := by
  obtain ⟨hd, rfl⟩ := h
  intro p l e R s m args below meth c H locs cells slots MC MS ls hC hB hR hS hl hL hst
  have hst2 := (xok_cons (xok_cons hst).2).2
  have hxy : xval x y = true := (xok_cons hst2).1
  obtain ⟨i, hi0, hi⟩ := xwl_at hxy hx
  have hnv : vp_nar .boolean (Int32.ofInt v) = Int32.ofInt v := by rcases hv with rfl | rfl <;> decide
  refine va_zast (f := fun f => Int32.ofInt (S x y f)) (D := w.2.1) (cl := vwCl) (ws := xwl w S) (tys := xtys w) hC.1 hC.2.1 hC.2.2.2.2.2.2.2.2.2.2.1 hR.1 hR.2.1 hS i 2 ((hi w S).trans (by rw [hce])) rfl (xn_in ha hN) hd (fun H1 locs1 hP1 hD1 hS1 => ?_)
  have e9 : (Sum.inl (w.2.2.1 2, (N, .inl (upd (fun f => Int32.ofInt (S x y f)) (Int32.ofInt a).toNatClampNeg (vp_nar .boolean (Int32.ofInt v))))) : va_E) = xce w x y (up S x y a.toNat v x y) := by
    rw [hce, up_row]
    refine congrArg (fun z => (Sum.inl (w.2.2.1 2, (N, .inl (z))) : va_E)) ?_
    funext q
    rw [hnv]; show (if q = (Int32.ofInt a).toNatClampNeg then Int32.ofInt v else Int32.ofInt (S x y q)) = Int32.ofInt (if q = a.toNat then v else S x y q)
    rw [xn_nat (a := a) (by omega) ha.1]
    by_cases hq : q = a.toNat
    · rw [if_pos hq, if_pos hq]
    · rw [if_neg hq, if_neg hq]
  rw [e9] at hP1 hD1
  exact kk p l e R s m args below meth c H1 locs1 cells slots MC MS ls hC hB (xRep.upd hi0 (fun k' j' h9 => up_oth h9) (hR.2.2.up x y a.toNat (by omega) (fun _ => by omega)) hP1 hD1) hS1 hl hL (xok_cons hst2).2
theorem xa_bald {x y N : Nat} {a : Int} (h : xd mi.2.1 pc .baload 1 pc') (hx : x < 50) (hce : ∀ F, xce w x y F = .inl (w.2.2.1 3, (N, .inl fun f => Int32.ofInt (F f)))) (ha : 0 ≤ a ∧ a < N) (hN : N < 2147483648) (kk : X w mi TG k n pc' L (xi (S x y a.toNat) :: st) S) : X w mi TG k n pc L (xi a :: xp x y :: st) S := by
  obtain ⟨hd, rfl⟩ := h
  intro p l e R s m args below meth c H locs cells slots MC MS ls hC hB hR hS hl hL hst
  have hst2 := (xok_cons hst).2
  have hxy : xval x y = true := (xok_cons hst2).1
  obtain ⟨i, -, hi⟩ := xwl_at hxy hx
  have h9 := kk p l e R s m args below meth c H locs cells slots MC MS ls hC hB hR hS hl hL (xok_of (v := xi (S x y a.toNat)) trivial (xok_cons hst2).2)
  rw [← xn_nat (a := a) (by omega) ha.1] at h9
  exact va_bald (f := fun f => Int32.ofInt (S x y f)) (D := w.2.1) (cl := vwCl) (ws := xwl w S) (tys := xtys w) hC.1 hC.2.1 hC.2.2.2.2.2.2.2.2.2.2.1 hR.1 i 3 ((hi w S).trans (by rw [hce])) rfl (xn_in ha hN) hd h9
theorem xa_bast {x y N : Nat} {a v : Int} (h : xd mi.2.1 pc .bastore 1 pc') (hx : x < 50) (hce : ∀ F, xce w x y F = .inl (w.2.2.1 3, (N, .inl fun f => Int32.ofInt (F f)))) (ha : 0 ≤ a ∧ a < N) (hN : N < 2147483648) (hv : -128 ≤ v ∧ v < 128)  (kk : X w mi TG k n pc' L st (up S x y a.toNat v)) : X w mi TG k n pc L (xi v :: xi a :: xp x y :: st) S := by
  obtain ⟨hd, rfl⟩ := h
  intro p l e R s m args below meth c H locs cells slots MC MS ls hC hB hR hS hl hL hst
  have hst2 := (xok_cons (xok_cons hst).2).2
  have hxy : xval x y = true := (xok_cons hst2).1
  obtain ⟨i, hi0, hi⟩ := xwl_at hxy hx
  have hnv : vp_nar .byte (Int32.ofInt v) = Int32.ofInt v := by
    rw [vp_nar_byte, Int32.toInt8_ofInt]
    refine Int32.toInt_inj.mp ?_
    rw [Int8.toInt_toInt32, xn_ti (by omega)]
    exact Int8.toInt_ofInt_of_le (by omega) (by omega)
  refine va_bast (f := fun f => Int32.ofInt (S x y f)) (D := w.2.1) (cl := vwCl) (ws := xwl w S) (tys := xtys w) hC.1 hC.2.1 hC.2.2.2.2.2.2.2.2.2.2.1 hR.1 hR.2.1 hS i 3 ((hi w S).trans (by rw [hce])) rfl (xn_in ha hN) hd (fun H1 locs1 hP1 hD1 hS1 => ?_)
  have e9 : (Sum.inl (w.2.2.1 3, (N, .inl (upd (fun f => Int32.ofInt (S x y f)) (Int32.ofInt a).toNatClampNeg (vp_nar .byte (Int32.ofInt v))))) : va_E) = xce w x y (up S x y a.toNat v x y) := by
    rw [hce, up_row]
    refine congrArg (fun z => (Sum.inl (w.2.2.1 3, (N, .inl (z))) : va_E)) ?_
    funext q
    rw [hnv]; show (if q = (Int32.ofInt a).toNatClampNeg then Int32.ofInt v else Int32.ofInt (S x y q)) = Int32.ofInt (if q = a.toNat then v else S x y q)
    rw [xn_nat (a := a) (by omega) ha.1]
    by_cases hq : q = a.toNat
    · rw [if_pos hq, if_pos hq]
    · rw [if_neg hq, if_neg hq]
  rw [e9] at hP1 hD1
  exact kk p l e R s m args below meth c H1 locs1 cells slots MC MS ls hC hB (xRep.upd hi0 (fun k' j' h9 => up_oth h9) (hR.2.2.up x y a.toNat (by omega) (fun _ => by omega)) hP1 hD1) hS1 hl hL (xok_cons hst2).2
theorem xa_aald {x y N t x2 : Nat} {C : String} {a : Int} {g : Nat → Nat} (h : xd mi.2.1 pc .aaload 1 pc') (hx : x < 50) (ht : (xtys w)[t]? = some (w.2.2.1 t, .object C)) (hce : ∀ F, xce w x y F = .inl (w.2.2.1 t, (N, .inr (.inr (.inr (.inr fun f => some (w.1 x2 (g f)))))))) (ha : 0 ≤ a ∧ a < N) (hN : N < 2147483648) (hok : xval x y = true → xval x2 (g a.toNat) = true) (kk : X w mi TG k n pc' L (xp x2 (g a.toNat) :: st) S) : X w mi TG k n pc L (xi a :: xp x y :: st) S := by
  obtain ⟨hd, rfl⟩ := h
  intro p l e R s m args below meth c H locs cells slots MC MS ls hC hB hR hS hl hL hst
  have hst2 := (xok_cons hst).2
  have hxy : xval x y = true := (xok_cons hst2).1
  obtain ⟨i, -, hi⟩ := xwl_at hxy hx
  have h9 := kk p l e R s m args below meth c H locs cells slots MC MS ls hC hB hR hS hl hL (xok_of (v := xp x2 (g a.toNat)) (hok hxy) (xok_cons hst2).2)
  rw [← xn_nat (a := a) (by omega) ha.1] at h9
  exact va_aldq (f := fun f => some (w.1 x2 (g f))) (D := w.2.1) (cl := vwCl) (ws := xwl w S) (tys := xtys w) hC.1 hC.2.1 hC.2.2.2.2.2.2.2.2.2.2.1 hR.1 i t ((hi w S).trans (by rw [hce])) ht (xn_in ha hN) hd h9
end XR2
end
section
/-! methods: their contracts, how they are entered, how they end, how they are called -/
def xQc (w : xW) (A : Option xV → xS → Prop) : Array Value → State → Outcome → State → Prop := fun _ st o t => (∃ (v : Option xV) (S' : xS), o = .returned (v.map (xc w.1)) ∧ (∀ u, v = some u → xok u) ∧ A v S' ∧ xRep w S' t.heap) ∧ va_F (xfr w) st t
def xXc (w : xW) (B : String → xS → Prop) : String → State → State → Prop := fun E st t => (∃ S', B E S' ∧ xRep w S' t.heap) ∧ va_F (xfr w) st t
def xTG (w : xW) (A : Option xV → xS → Prop) (B : String → xS → Prop) : xT := fun below args s MC MS => vx_MQ below (xQc w A) (xXc w B) args s MC MS (xfr w)
def xw0 (mi : xM) (y : MethodName) : Cond := match mi.2.2.2.2.1 with
  | [] => .code y mi.2.1 mi.2.2.1 mi.2.2.2.1
  | h :: t => .codeWith y mi.2.1 mi.2.2.1 mi.2.2.2.1 (h :: t)
def xws (mi : xM) (y : MethodName) : List Cond := xw0 mi y :: xtb
def xrm (mi : xM) (k n : Nat) : Room := { frames := mi.2.2.2.2.2.1, cells := k, slots := n, locals := mi.2.2.2.2.2.2 }
def xPc (w : xW) (S : xS) : State → Prop := fun U => xRep w S U.heap ∧ xSta w U U.heap
/-- the contract: called with these values over this store it returns or throws, and A or B holds -/
def K (w : xW) (mi : xM) (y : MethodName) (k n : Nat) (as : List xV) (S : xS) (A : Option xV → xS → Prop) (B : String → xS → Prop) : Prop :=
  ∀ l : Launch, l.flags = flags0 → (∀ v ∈ as, xok v) → vx_Met l y (xws mi y) (xrm mi k n) (va_Pc (as.map (xc w.1)) (xPc w S)) (xQc w A) (xXc w B) k n (xfr w)
/-- the locals at the entry -/
def xent (as : List xV) : List xV := as.flatMap fun v => if xcat2 v then [v, xj] else [v]
theorem xcat_iff {ad : Nat → Nat → Nat} {v : xV} (hj : xjk v = false) : (xc ad v).category = 2 ↔ xcat2 v = true := by
  rcases v with (a | a) | (q | v)
  · simp [xc, Value.category, xcat2]
  · simp [xc, Value.category, xcat2]
  · simp [xc, Value.category, xcat2]
  · cases v <;> simp [xc, Value.category, xcat2]
theorem xpl_junk {ad : Nat → Nat → Nat} (m : Nat) : ∀ n, xpl ad n (List.replicate m xj) = [] := by
  induction m with
  | zero => intro n; rfl
  | succ m ih =>
    intro n
    rw [List.replicate_succ, xpl, if_pos (show xjk xj = true from rfl)]
    exact ih (n + 1)
theorem xent_pl {ad : Nat → Nat → Nat} {m : Nat} : ∀ (as : List xV) (n : Nat), (∀ v ∈ as, xjk v = false) → xpl ad n (xent as ++ List.replicate m xj) = lv_args n (as.map (xc ad)) := by
  intro as
  induction as with
  | nil => intro n _; exact xpl_junk m n
  | cons v vs ih =>
    intro n hj
    have h1 := hj v List.mem_cons_self
    have h2 : ∀ u ∈ vs, xjk u = false := fun u hu => hj u (List.mem_cons_of_mem _ hu)
    rw [List.map_cons, lv_args]
    by_cases hc : xcat2 v = true
    · rw [if_pos ((xcat_iff h1).mpr hc), ← ih (n + 2) h2]
      have e : xent (v :: vs) ++ List.replicate m xj = v :: xj :: (xent vs ++ List.replicate m xj) := by
        unfold xent
        rw [List.flatMap_cons, if_pos hc]
        rfl
      rw [e, xpl, if_neg (by rw [h1]; decide), xpl, if_pos (show xjk xj = true from rfl)]
    · rw [if_neg (fun q => hc ((xcat_iff h1).mp q)), ← ih (n + 1) h2]
      have e : xent (v :: vs) ++ List.replicate m xj = v :: (xent vs ++ List.replicate m xj) := by
        unfold xent
        rw [List.flatMap_cons, if_neg hc]
        rfl
      rw [e, xpl, if_neg (by rw [h1]; decide)]
theorem xent_len (ad : Nat → Nat → Nat) : ∀ (as : List xV), (∀ v ∈ as, xjk v = false) → (lg_sl (as.map (xc ad))).length = (xent as).length := by
  intro as
  induction as with
  | nil => intro _; rfl
  | cons v vs ih =>
    intro hj
    have h1 := hj v List.mem_cons_self
    have h2 : ∀ u ∈ vs, xjk u = false := fun u hu => hj u (List.mem_cons_of_mem _ hu)
    have h3 := ih h2
    unfold lg_sl xent at h3 ⊢
    rw [List.map_cons, List.flatMap_cons, List.flatMap_cons, List.length_append, List.length_append, h3]
    congr 1
    by_cases hc : xcat2 v = true
    · rw [if_pos ((xcat_iff h1).mpr hc), if_pos hc]; rfl
    · rw [if_neg (fun q => hc ((xcat_iff h1).mp q)), if_neg hc]; rfl
theorem xent_ok {as : List xV} {m : Nat} (h : ∀ v ∈ as, xok v) : ∀ v ∈ xent as ++ List.replicate m xj, xok v := by
  intro v hv
  rcases List.mem_append.mp hv with h1 | h1
  · obtain ⟨u, hu, h2⟩ := List.mem_flatMap.mp h1
    split at h2
    · rcases List.mem_cons.mp h2 with rfl | h2
      · exact h v hu
      · rw [List.mem_singleton.mp h2]; trivial
    · rw [List.mem_singleton.mp h2]; exact h u hu
  · rw [(List.mem_replicate.mp h1).2]; trivial
section XK
variable {w : xW} {mi : xM} {y : MethodName} {k n : Nat} {as L0 : List xV} {S : xS} {A : Option xV → xS → Prop} {B : String → xS → Prop}
theorem K.of (hy : plainName y.cls = true) (hh : mi.2.2.2.2.1 = []) (hc : y.cls = mi.1) (hj : as.all (fun v => !xjk v) = true) (hl : (xent as).length ≤ mi.2.2.1) (hL : xent as ++ List.replicate (mi.2.2.1 - (xent as).length) xj = L0)
    (body : X w mi (xTG w A B) k n 0 L0 [] S) : K w mi y k n as S A B := by
  intro l hf hok
  have hj2 : ∀ v ∈ as, xjk v = false := fun v hv => by simpa using List.all_eq_true.mp hj v hv
  have e0 : xw0 mi y = .code y mi.2.1 mi.2.2.1 mi.2.2.2.1 := by unfold xw0; rw [hh]
  refine vx_ofW (ws' := xtb) (cc := mi.2.1) (maxL := mi.2.2.1) (ret := mi.2.2.2.1) hy (by rw [xws, e0]) ?_
  intro p e s m args below meth c s₁ Bd hml hex hv
  obtain ⟨rfl, hR, hSt⟩ := hv
  have hts := atoms_spec (ws := xws mi y) Bd.pre
  rw [lg_entry_eq]
  have hlen := xent_len w.1 as hj2
  have hlh := lv_entry (as.map (xc w.1)) (n := mi.2.2.1) (by rw [hlen]; exact hl)
  have hcl : s.vm.findClass mi.1 = some m.cls := by rw [← hc]; exact findClass_of_methodNamed Bd.named
  have htab : c.exceptionTable.toList = tableOf mi.2.2.2.2.1 := by
    rw [hh]
    cases hz : c.exceptionTable.toList with
    | nil => rfl
    | cons a t => exact absurd (hex a (by rw [hz]; exact List.mem_cons_self)) id
  rw [← hL] at body
  exact body p l e _ s m _ below meth c s.heap [] 0 0 k n _ ⟨Bd.exec, Bd.bytes, Bd.returns, hml, hcl, fun z hz => hts z (List.mem_cons_of_mem _ hz), Bd.notSynchronized, htab, ⟨Nat.le_refl _, Nat.le_refl _⟩, hf, hSt⟩
    ⟨by omega, by omega, Nat.le_refl _, Nat.le_refl _⟩ hR va_S.rf ⟨by rw [List.length_append, List.length_replicate]; omega, by rw [xent_pl as 0 hj2]; exact hlh⟩ (xent_ok hok) (fun v hv => nomatch hv)
/-- a method with a table of its own -/
theorem K.ofH {h : Nat × Nat × Nat × Nat} {t : List (Nat × Nat × Nat × Nat)} (hy : plainName y.cls = true) (hh : mi.2.2.2.2.1 = h :: t) (hc : y.cls = mi.1) (hj : as.all (fun v => !xjk v) = true) (hl : (xent as).length ≤ mi.2.2.1) (hL : xent as ++ List.replicate (mi.2.2.1 - (xent as).length) xj = L0)
    (body : X w mi (xTG w A B) k n 0 L0 [] S) : K w mi y k n as S A B := by
  intro l hf hok
  have hj2 : ∀ v ∈ as, xjk v = false := fun v hv => by simpa using List.all_eq_true.mp hj v hv
  have e0 : xw0 mi y = .codeWith y mi.2.1 mi.2.2.1 mi.2.2.2.1 mi.2.2.2.2.1 := by unfold xw0; rw [hh]
  refine vx_ofWH (ws' := xtb) (cc := mi.2.1) (maxL := mi.2.2.1) (ret := mi.2.2.2.1) (hh := mi.2.2.2.2.1) hy (by rw [xws, e0]) ?_
  intro p e s m args below meth c s₁ Bd hml hv
  obtain ⟨rfl, hR, hSt⟩ := hv
  have hts := atoms_spec (ws := xws mi y) Bd.pre
  rw [lg_entry_eq]
  have hlen := xent_len w.1 as hj2
  have hlh := lv_entry (as.map (xc w.1)) (n := mi.2.2.1) (by rw [hlen]; exact hl)
  have hcl : s.vm.findClass mi.1 = some m.cls := by rw [← hc]; exact findClass_of_methodNamed Bd.named
  have htab : c.exceptionTable.toList = tableOf mi.2.2.2.2.1 := vx_table (x := y) Bd (hts (.codeWith y mi.2.1 mi.2.2.1 mi.2.2.2.1 mi.2.2.2.2.1) (by rw [xws, e0]; exact List.mem_cons_self))
  rw [← hL] at body
  exact body p l e _ s m _ below meth c s.heap [] 0 0 k n _ ⟨Bd.exec, Bd.bytes, Bd.returns, hml, hcl, fun z hz => hts z (List.mem_cons_of_mem _ hz), Bd.notSynchronized, htab, ⟨Nat.le_refl _, Nat.le_refl _⟩, hf, hSt⟩
    ⟨by omega, by omega, Nat.le_refl _, Nat.le_refl _⟩ hR va_S.rf ⟨by rw [List.length_append, List.length_replicate]; omega, by rw [xent_pl as 0 hj2]; exact hlh⟩ (xent_ok hok) (fun v hv => nomatch hv)
theorem K.imp {A2 : Option xV → xS → Prop} {B2 : String → xS → Prop} (h : K w mi y k n as S A B) (hA : ∀ v S', A v S' → A2 v S') (hB : ∀ E S', B E S' → B2 E S') : K w mi y k n as S A2 B2 := by
  intro l hf hok
  refine MetFree.mono (h l hf hok) (fun a s hp => hp) (fun _ _ _ _ _ hk => hk) (fun a st o t _ hq => ?_)
  rcases hq with ⟨⟨⟨v, S', h1, h2, h3, h4⟩, hF⟩, hL⟩ | ⟨q, h1, E, ce, L, ⟨⟨S', h3, h4⟩, hF⟩, h5⟩
  · exact Or.inl ⟨⟨⟨v, S', h1, h2, hA v S' h3, h4⟩, hF⟩, hL⟩
  · exact Or.inr ⟨q, h1, E, ce, L, ⟨⟨S', hB E S' h3, h4⟩, hF⟩, h5⟩
end XK
section XE
variable {w : xW} {mi : xM} {k n pc pc' : Nat} {L st : List xV} {S : xS} {A : Option xV → xS → Prop} {B : String → xS → Prop}
theorem xa_vret (h : xd mi.2.1 pc .return_ 1 pc') (hr : mi.2.2.2.1 = none) (hq : A none S) : X w mi (xTG w A B) k n pc L [] S := by
  obtain ⟨hd, rfl⟩ := h
  intro p l e R s m args below meth c H locs cells slots MC MS ls hC hB hR hS hl hL hst
  refine W.widen (k := MC) (n := MS) (by omega) (by omega) (vx_ret ?_)
  exact W.vret hC.1 hC.2.1 (hC.2.2.1.trans hr) (fun t ht hW => ⟨⟨none, S, rfl, fun u e => (nomatch e), hq, by rw [ht]; exact hR⟩, hS.F ht⟩) hS.2.2 hd hC.2.2.2.2.2.2.1
theorem xa_iret {a : Int} (h : xd mi.2.1 pc .ireturn 1 pc') (hr : mi.2.2.2.1 = some .int) (hq : A (some (xi a)) S) : X w mi (xTG w A B) k n pc L [xi a] S := by
  obtain ⟨hd, rfl⟩ := h
  intro p l e R s m args below meth c H locs cells slots MC MS ls hC hB hR hS hl hL hst
  refine W.widen (k := MC) (n := MS) (by omega) (by omega) (vx_ret ?_)
  exact W.iret (v := Int32.ofInt a) hC.1 hC.2.1 (hC.2.2.1.trans hr) (fun t ht hW => ⟨⟨some (xi a), S, rfl, fun u e => by cases e; trivial, hq, by rw [ht]; exact hR⟩, hS.F ht⟩) hS.2.2 hd hC.2.2.2.2.2.2.1
theorem xa_zret {a : Int} (h : xd mi.2.1 pc .ireturn 1 pc') (hr : mi.2.2.2.1 = some .boolean) (ha : a = 0 ∨ a = 1) (hq : A (some (xi a)) S) : X w mi (xTG w A B) k n pc L [xi a] S := by
  obtain ⟨hd, rfl⟩ := h
  intro p l e R s m args below meth c H locs cells slots MC MS ls hC hB hR hS hl hL hst
  refine W.widen (k := MC) (n := MS) (by omega) (by omega) (vx_ret ?_)
  exact W.zret (v := Int32.ofInt a) hC.1 hC.2.1 (hC.2.2.1.trans hr) (by rcases ha with rfl | rfl <;> decide) (fun t ht hW => ⟨⟨some (xi a), S, rfl, fun u e => by cases e; trivial, hq, by rw [ht]; exact hR⟩, hS.F ht⟩) hS.2.2 hd hC.2.2.2.2.2.2.1
theorem xa_lret {a : Int} (h : xd mi.2.1 pc .lreturn 1 pc') (hr : mi.2.2.2.1 = some .long) (hq : A (some (xl a)) S) : X w mi (xTG w A B) k n pc L [xl a] S := by
  obtain ⟨hd, rfl⟩ := h
  intro p l e R s m args below meth c H locs cells slots MC MS ls hC hB hR hS hl hL hst
  refine W.widen (k := MC) (n := MS) (by omega) (by omega) (vx_ret ?_)
  exact W.lret (v := Int64.ofInt a) hC.1 hC.2.1 (hC.2.2.1.trans hr) (fun t ht hW => ⟨⟨some (xl a), S, rfl, fun u e => by cases e; trivial, hq, by rw [ht]; exact hR⟩, hS.F ht⟩) hS.2.2 hd hC.2.2.2.2.2.2.1
theorem xa_fret {a : UInt32} (h : xd mi.2.1 pc .freturn 1 pc') (hr : mi.2.2.2.1 = some .float) (hq : A (some (xv (.float a))) S) : X w mi (xTG w A B) k n pc L [xv (.float a)] S := by
  obtain ⟨hd, rfl⟩ := h
  intro p l e R s m args below meth c H locs cells slots MC MS ls hC hB hR hS hl hL hst
  refine W.widen (k := MC) (n := MS) (by omega) (by omega) (vx_ret ?_)
  exact W.fret (v := a) hC.1 hC.2.1 (hC.2.2.1.trans hr) (fun t ht hW => ⟨⟨some (xv (.float a)), S, rfl, fun u e => by cases e; trivial, hq, by rw [ht]; exact hR⟩, hS.F ht⟩) hS.2.2 hd hC.2.2.2.2.2.2.1
theorem xa_dret {a : UInt64} (h : xd mi.2.1 pc .dreturn 1 pc') (hr : mi.2.2.2.1 = some .double) (hq : A (some (xv (.double a))) S) : X w mi (xTG w A B) k n pc L [xv (.double a)] S := by
  obtain ⟨hd, rfl⟩ := h
  intro p l e R s m args below meth c H locs cells slots MC MS ls hC hB hR hS hl hL hst
  refine W.widen (k := MC) (n := MS) (by omega) (by omega) (vx_ret ?_)
  exact W.dret (v := a) hC.1 hC.2.1 (hC.2.2.1.trans hr) (fun t ht hW => ⟨⟨some (xv (.double a)), S, rfl, fun u e => by cases e; trivial, hq, by rw [ht]; exact hR⟩, hS.F ht⟩) hS.2.2 hd hC.2.2.2.2.2.2.1
theorem xa_aret {x z : Nat} {C : String} (h : xd mi.2.1 pc .areturn 1 pc') (hr : mi.2.2.2.1 = some (.object C)) (hq : A (some (xp x z)) S) : X w mi (xTG w A B) k n pc L [xp x z] S := by
  obtain ⟨hd, rfl⟩ := h
  intro p l e R s m args below meth c H locs cells slots MC MS ls hC hB hR hS hl hL hst
  refine W.widen (k := MC) (n := MS) (by omega) (by omega) (vx_ret ?_)
  exact W.aret (v := .ref (w.1 x z)) hC.1 hC.2.1 (hC.2.2.1.trans hr) (Or.inl ⟨_, rfl⟩) (Or.inr ⟨_, rfl⟩) (fun t ht hW => ⟨⟨some (xp x z), S, rfl, fun u e => by cases e; exact (xok_cons hst).1, hq, by rw [ht]; exact hR⟩, hS.F ht⟩) hS.2.2 hd hC.2.2.2.2.2.2.1
theorem xa_aretN {C : String} (h : xd mi.2.1 pc .areturn 1 pc') (hr : mi.2.2.2.1 = some (.object C)) (hq : A (some (xv .null)) S) : X w mi (xTG w A B) k n pc L [xv .null] S := by
  obtain ⟨hd, rfl⟩ := h
  intro p l e R s m args below meth c H locs cells slots MC MS ls hC hB hR hS hl hL hst
  refine W.widen (k := MC) (n := MS) (by omega) (by omega) (vx_ret ?_)
  exact W.aret (v := .null) hC.1 hC.2.1 (hC.2.2.1.trans hr) (Or.inl ⟨_, rfl⟩) (Or.inl rfl) (fun t ht hW => ⟨⟨some (xv .null), S, rfl, fun u e => by cases e; trivial, hq, by rw [ht]; exact hR⟩, hS.F ht⟩) hS.2.2 hd hC.2.2.2.2.2.2.1
end XE
section XC
variable {w : xW} {mi mi' : xM} {TG : xT} {k n k1 n1 pc pc' : Nat} {L st as : List xV} {S : xS} {y : MethodName} {A : Option xV → xS → Prop} {B : String → xS → Prop}
theorem xPc_blind {av : List Value} : FrameBlind (va_Pc av (xPc w S)) := fun a U g mk q => ⟨q.1, q.2.1, (q.2.2).moved (State.WarmedH.refl U)⟩
theorem xPc_at {s : State} {H : Heap} {locs : List Loc} (hR : xRep w S H) (hSt : xSta w s s.heap) (hS : va_S (xfr w) s.heap H locs) (U : State) (hU : U.heap = H) (hW : s.WarmedH U.vm) : xPc w S U := by
  refine ⟨by rw [hU]; exact hR, ?_⟩
  rw [hU]
  exact (hSt.kept hS.1 hS.2.1).moved hW
/-- behind a call -/
theorem xa_run {p : Program} {l : Launch} {e : Env} {R : Room} {s : State} {m : MethodId} {args : Array Value} {below : List Frame} {meth : Method} {c : Code} {H : Heap} {locs : List Loc} {cells slots MC MS : Nat} {ls : Array Slot} {st0 : List Value} {a : Array Value}
    (hC : xCx w mi p l R s m args meth c) (hB : cells + k ≤ MC ∧ slots + n ≤ MS ∧ MC ≤ R.cells ∧ MS ≤ R.slots) (hS : va_S (xfr w) s.heap H locs) (hl : xlh w.1 ls mi.2.2.1 L) (hL : ∀ v ∈ L, xok v) (hst : ∀ v ∈ st, xok v) (hk : k1 ≤ k ∧ n1 ≤ n)
    (hr : vx_Run p l e R s m args below meth c H locs cells slots k1 n1 (F0 m pc ls st0) (st.map (xc w.1)) (xQc w A a) (xXc w B) (xfr w))
    (hA : ∀ v S', A v S' → X w mi TG (k - k1) (n - n1) (pc + 3) L (v.toList ++ st) S') (hX : ∀ E S', B E S' → XT w mi TG (k - k1) (n - n1) pc L st E S') :
    W p l e R s m args below meth c H locs cells slots (TG below args s MC MS) (F0 m pc ls st0) := by
  intro T hT X0
  rcases hr T hT X0 with ⟨v, st₀, t, T', Lc, h0, X', hL', e1, e2, ⟨⟨v', S', hv, hok, hA', hR'⟩, hF⟩, st'⟩ | ⟨q, st₀, t, T', Lc, E, ce, h0, X', hL', e1, e2, ⟨⟨S', hB', hR'⟩, hF⟩, hce, hcv, hcl, st'⟩
  · cases hv
    obtain ⟨k1', k2', k3'⟩ := vx_keep h0 e1 hS (fun _ _ h => h) (fun _ h => h) hL' hF
    have hst2 : ∀ u ∈ v'.toList ++ st, xok u := by
      intro u hu
      rcases List.mem_append.mp hu with h | h
      · exact hok u (by cases v' with
          | none => cases h
          | some z => rw [List.mem_singleton.mp h])
      · exact hst u h
    obtain ⟨t2, a1, b1⟩ := hA v' S' hA' p l e R s m args below meth c T'.heap (locs ++ Lc) (cells + k1) (slots + n1) MC MS ls hC (by omega) (by rw [e1]; exact hR') k3' hl hL hst2 T' rfl X'
    have e9 : (v'.toList ++ st).map (xc w.1) = (v'.map (xc w.1)).toList ++ st.map (xc w.1) := by cases v' <;> rfl
    rw [e9] at a1
    exact ⟨t2, st' t2 a1, b1⟩
  · obtain ⟨k1', k2', k3'⟩ := vx_keep h0 e1 hS (fun _ _ h => h) (fun _ h => h) hL' hF
    obtain ⟨t2, a1, b1⟩ := hX E S' hB' p l e R s m args below meth c T'.heap (locs ++ Lc) (cells + k1) (slots + n1) MC MS ls q ce hC (by omega) (by rw [e1]; exact hR') k3' hl hL hst (by rw [e1]; exact hce) hcv hcl T' rfl X'
    exact ⟨t2, st'.trans a1, b1⟩
/-- what a call asks of names and room -/
def xcl (mi mi' : xM) (y : MethodName) (n : Nat) : Prop := (y.cls ≠ "java/lang/invoke/MethodHandle" ∧ y.cls ≠ "java/lang/invoke/VarHandle" ∧ (parseMethodDescriptor y.desc).map (fun d => d.parameters.length) = some n) ∧ mi'.2.2.2.2.2.1 + 1 ≤ mi.2.2.2.2.2.1 ∧ 8 + (mi'.2.2.1 + 11) + mi'.2.2.2.2.2.2 ≤ mi.2.2.2.2.2.2
theorem xa_callV {x z idx N ci : Nat} {T : u_T} {fs : (Nat → Int) → List Value} (h : xd mi.2.1 pc (.invokevirtual idx) 3 pc') (hw : ∀ u ∈ [Cond.methodLink mi.1 idx y, .instanceMethod y, .selects y.cls y y, .initialized y.cls, .code y mi'.2.1 mi'.2.2.1 mi'.2.2.2.1], u ∈ xtb) (hh : mi'.2.2.2.2.1 = []) (hcl : xcl mi mi' y as.length) (hx : x < 50) (hce : ∀ F, xce w x z F = .inr (ci, fs F)) (hc : vwCl[ci]? = some (y.cls, T, N))
    (hsum : (st.map fun v => if xcat2 v then 2 else 1).sum ≤ 8) (hk : k1 ≤ k ∧ n1 ≤ n) (hK : K w mi' y k1 n1 (xp x z :: as) S A B)
    (hA : ∀ v S', A v S' → X w mi TG (k - k1) (n - n1) pc' L (v.toList ++ st) S') (hX : ∀ E S', B E S' → XT w mi TG (k - k1) (n - n1) pc L st E S') (hj : st.all (fun v => !xjk v) = true) : X w mi TG k n pc L (as.reverse ++ xp x z :: st) S := by
  obtain ⟨hd, rfl⟩ := h
  intro p l e R s m args below meth c H locs cells slots MC MS ls hC hB hR hS hl hL hst
  have hok : ∀ v ∈ xp x z :: as, xok v := fun v hv => hst v (by
    rcases List.mem_cons.mp hv with h | h
    · exact List.mem_append_right _ (by rw [h]; exact List.mem_cons_self)
    · exact List.mem_append_left _ (List.mem_reverse.mpr h))
  have hst2 : ∀ v ∈ st, xok v := fun v hv => hst v (List.mem_append_right _ (List.mem_cons_of_mem _ hv))
  have hxz : xval x z = true := hok _ List.mem_cons_self
  obtain ⟨i, -, hi⟩ := xwl_at hxz hx
  have e0 : xw0 mi' y = .code y mi'.2.1 mi'.2.2.1 mi'.2.2.2.1 := by unfold xw0; rw [hh]
  have hG : GoodIn xtb (wsV mi.1 idx y.cls y (xws mi' y)) := by
    intro u hu
    have h9 : u ∈ xtb := by
      unfold wsV xws at hu
      rw [e0] at hu
      rcases List.mem_append.mp hu with h | h
      · exact hw u (by simp only [List.mem_cons, List.not_mem_nil, or_false] at h ⊢; rcases h with h | h | h | h <;> simp [h])
      · rcases List.mem_cons.mp h with h | h
        · exact hw u (by rw [h]; simp)
        · exact h
    exact xtb_good (fun _ h => h) u h9
  have hrc := hcl.2
  refine xa_run (k1 := k1) (n1 := n1) (a := (Value.ref (w.1 x z) :: as.map (xc w.1)).toArray) hC hB hS hl hL hst2 hk ?_ hA hX
  refine vx_runV (As := as.map (xc w.1)) (rest := st.map (xc w.1)) (b := w.1 x z) (C := y.cls) (index := idx) (maxL := mi'.2.2.1) (ret := mi'.2.2.2.1) (bytes := mi'.2.1) (n := as.length) (nL := mi.2.2.1) (cc := mi.2.1) (own := mi.1) (Ts := xtb) ⟨hC.1, hC.2.1, hC.2.2.2.1, hC.2.2.2.2.1, hC.2.2.2.2.2.1⟩ (hK l hC.2.2.2.2.2.2.2.2.2.1 hok)
    (cwV (ws' := xtb) as.length hC.2.2.2.2.2.1 hG (by rw [xws, e0]) rfl rfl ⟨rfl, hcl.1⟩ ⟨Nat.le_trans hrc.1 hC.2.2.2.2.2.2.2.2.1.1, Nat.le_trans hrc.2 hC.2.2.2.2.2.2.2.2.1.2⟩)
    ⟨xPc_blind, va_recv (D := w.2.1) (ws := xwl w S) (tys := xtys w) (q0 := i) hC.2.2.2.2.2.2.2.2.2.2.1 hR.1 hc ((hi w S).trans (by rw [hce])), fun U hU hW => ⟨rfl, xPc_at hR hC.2.2.2.2.2.2.2.2.2.2 hS U hU hW⟩⟩ rfl (List.length_map _) hl.2.1 ?_ ?_ hd ?_
  · show List.map (xc w.1) (as.reverse ++ xp x z :: st) = _
    rw [List.map_append, List.map_reverse]
    rfl
  · show 2 * 0 + _ ≤ 8
    rw [List.map_map]
    have e9 : ∀ v ∈ st, ((fun v => v.category) ∘ xc w.1) v = if xcat2 v then 2 else 1 := by
      intro v hv
      have hjv : xjk v = false := by simpa using List.all_eq_true.mp hj v hv
      show (xc w.1 v).category = _
      by_cases q : xcat2 v = true
      · rw [if_pos q]; exact (xcat_iff hjv).mpr q
      · rw [if_neg q]; exact xn_cat1 (by simpa using q)
    rw [List.map_congr_left e9]
    omega
  · omega
theorem xa_callS {idx : Nat} (h : xd mi.2.1 pc (.invokestatic idx) 3 pc') (hw : ∀ u ∈ [Cond.methodLink mi.1 idx y, .static y, .initialized mi.1, .code y mi'.2.1 mi'.2.2.1 mi'.2.2.2.1], u ∈ xtb) (hh : mi'.2.2.2.2.1 = []) (hown : y.cls = mi.1) (hcl : xcl mi mi' y as.length)
    (hsum : (st.map fun v => if xcat2 v then 2 else 1).sum ≤ 8) (hk : k1 ≤ k ∧ n1 ≤ n) (hK : K w mi' y k1 n1 as S A B)
    (hA : ∀ v S', A v S' → X w mi TG (k - k1) (n - n1) pc' L (v.toList ++ st) S') (hX : ∀ E S', B E S' → XT w mi TG (k - k1) (n - n1) pc L st E S') (hj : st.all (fun v => !xjk v) = true) : X w mi TG k n pc L (as.reverse ++ st) S := by
  obtain ⟨hd, rfl⟩ := h
  intro p l e R s m args below meth c H locs cells slots MC MS ls hC hB hR hS hl hL hst
  have hok : ∀ v ∈ as, xok v := fun v hv => hst v (List.mem_append_left _ (List.mem_reverse.mpr hv))
  have hst2 : ∀ v ∈ st, xok v := fun v hv => hst v (List.mem_append_right _ hv)
  have e0 : xw0 mi' y = .code y mi'.2.1 mi'.2.2.1 mi'.2.2.2.1 := by unfold xw0; rw [hh]
  have hG : GoodIn xtb (wsS mi.1 idx y (xws mi' y)) := by
    intro u hu
    have h9 : u ∈ xtb := by
      unfold wsS xws at hu
      rw [e0] at hu
      rcases List.mem_append.mp hu with h | h
      · exact hw u (by simp only [List.mem_cons, List.not_mem_nil, or_false] at h ⊢; rcases h with h | h | h <;> simp [h])
      · rcases List.mem_cons.mp h with h | h
        · exact hw u (by rw [h]; simp)
        · exact h
    exact xtb_good (fun _ h => h) u h9
  have hrc := hcl.2
  refine xa_run (k1 := k1) (n1 := n1) (a := (as.map (xc w.1)).toArray) hC hB hS hl hL hst2 hk ?_ hA hX
  refine vx_runS (As := as.map (xc w.1)) (rest := st.map (xc w.1)) (index := idx) (maxL := mi'.2.2.1) (ret := mi'.2.2.2.1) (bytes := mi'.2.1) (n := as.length) (nL := mi.2.2.1) (cc := mi.2.1) (own := mi.1) (Ts := xtb) ⟨hC.1, hC.2.1, hC.2.2.2.1, hC.2.2.2.2.1, hC.2.2.2.2.2.1⟩ (hK l hC.2.2.2.2.2.2.2.2.2.1 hok)
    (cwS (ws' := xtb) as.length hC.2.2.2.2.2.1 hG (by rw [xws, e0]) rfl rfl ⟨hown, hcl.1⟩ ⟨Nat.le_trans hrc.1 hC.2.2.2.2.2.2.2.2.1.1, Nat.le_trans hrc.2 hC.2.2.2.2.2.2.2.2.1.2⟩)
    ⟨xPc_blind, fun U hU hW => ⟨rfl, xPc_at hR hC.2.2.2.2.2.2.2.2.2.2 hS U hU hW⟩⟩ rfl (List.length_map _) hl.2.1 ?_ ?_ hd ?_
  · show List.map (xc w.1) (as.reverse ++ st) = _
    rw [List.map_append, List.map_reverse]
  · show 2 * 0 + _ ≤ 8
    rw [List.map_map]
    have e9 : ∀ v ∈ st, ((fun v => v.category) ∘ xc w.1) v = if xcat2 v then 2 else 1 := by
      intro v hv
      have hjv : xjk v = false := by simpa using List.all_eq_true.mp hj v hv
      show (xc w.1 v).category = _
      by_cases q : xcat2 v = true
      · rw [if_pos q]; exact (xcat_iff hjv).mpr q
      · rw [if_neg q]; exact xn_cat1 (by simpa using q)
    rw [List.map_congr_left e9]
    omega
  · omega
/-- a static call of a method with a table -/
theorem xa_callSW {idx : Nat} {h0 : Nat × Nat × Nat × Nat} {t0 : List (Nat × Nat × Nat × Nat)} (h : xd mi.2.1 pc (.invokestatic idx) 3 pc') (hw : ∀ u ∈ [Cond.methodLink mi.1 idx y, .static y, .initialized y.cls, .codeWith y mi'.2.1 mi'.2.2.1 mi'.2.2.2.1 mi'.2.2.2.2.1], u ∈ xtb) (hh : mi'.2.2.2.2.1 = h0 :: t0) (hcl : xcl mi mi' y as.length)
    (hsum : (st.map fun v => if xcat2 v then 2 else 1).sum ≤ 8) (hk : k1 ≤ k ∧ n1 ≤ n) (hK : K w mi' y k1 n1 as S A B)
    (hA : ∀ v S', A v S' → X w mi TG (k - k1) (n - n1) pc' L (v.toList ++ st) S') (hX : ∀ E S', B E S' → XT w mi TG (k - k1) (n - n1) pc L st E S') (hj : st.all (fun v => !xjk v) = true) : X w mi TG k n pc L (as.reverse ++ st) S := by
  obtain ⟨hd, rfl⟩ := h
  intro p l e R s m args below meth c H locs cells slots MC MS ls hC hB hR hS hl hL hst
  have hok : ∀ v ∈ as, xok v := fun v hv => hst v (List.mem_append_left _ (List.mem_reverse.mpr hv))
  have hst2 : ∀ v ∈ st, xok v := fun v hv => hst v (List.mem_append_right _ hv)
  have e0 : xw0 mi' y = .codeWith y mi'.2.1 mi'.2.2.1 mi'.2.2.2.1 mi'.2.2.2.2.1 := by unfold xw0; rw [hh]
  have hG : GoodIn xtb (va_wsS mi.1 idx y (xws mi' y)) := by
    intro u hu
    have h9 : u ∈ xtb := by
      unfold va_wsS xws at hu
      rw [e0] at hu
      rcases List.mem_append.mp hu with h | h
      · exact hw u (by simp only [List.mem_cons, List.not_mem_nil, or_false] at h ⊢; rcases h with h | h | h <;> simp [h])
      · rcases List.mem_cons.mp h with h | h
        · exact hw u (by rw [h]; simp)
        · exact h
    exact xtb_good (fun _ h => h) u h9
  have hrc := hcl.2
  refine xa_run (k1 := k1) (n1 := n1) (a := (as.map (xc w.1)).toArray) hC hB hS hl hL hst2 hk ?_ hA hX
  refine vx_runSX (hh := mi'.2.2.2.2.1) (As := as.map (xc w.1)) (rest := st.map (xc w.1)) (index := idx) (maxL := mi'.2.2.1) (ret := mi'.2.2.2.1) (bytes := mi'.2.1) (n := as.length) (nL := mi.2.2.1) (cc := mi.2.1) (own := mi.1) (Ts := xtb) ⟨hC.1, hC.2.1, hC.2.2.2.1, hC.2.2.2.2.1, hC.2.2.2.2.2.1⟩ (hK l hC.2.2.2.2.2.2.2.2.2.1 hok)
    (vx_cwSW (ws' := xtb) as.length hC.2.2.2.2.2.1 hG (by rw [xws, e0]) rfl rfl hcl.1 ⟨Nat.le_trans hrc.1 hC.2.2.2.2.2.2.2.2.1.1, Nat.le_trans hrc.2 hC.2.2.2.2.2.2.2.2.1.2⟩)
    ⟨xPc_blind, fun U hU hW => ⟨rfl, xPc_at hR hC.2.2.2.2.2.2.2.2.2.2 hS U hU hW⟩⟩ rfl (List.length_map _) hl.2.1 ?_ ?_ hd ?_
  · show List.map (xc w.1) (as.reverse ++ st) = _
    rw [List.map_append, List.map_reverse]
  · show 2 * 0 + _ ≤ 8
    rw [List.map_map]
    have e9 : ∀ v ∈ st, ((fun v => v.category) ∘ xc w.1) v = if xcat2 v then 2 else 1 := by
      intro v hv
      have hjv : xjk v = false := by simpa using List.all_eq_true.mp hj v hv
      show (xc w.1 v).category = _
      by_cases q : xcat2 v = true
      · rw [if_pos q]; exact (xcat_iff hjv).mpr q
      · rw [if_neg q]; exact xn_cat1 (by simpa using q)
    rw [List.map_congr_left e9]
    omega
  · omega
/-- a static call of a nest mate, which doesn't throw -/
theorem xa_callSN {idx : Nat} {host : String} (h : xd mi.2.1 pc (.invokestatic idx) 3 pc') (hn : (mi.1, idx, y, host) ∈ xnest) (hw : ∀ u ∈ [Cond.static y, .initialized y.cls, .code y mi'.2.1 mi'.2.2.1 mi'.2.2.2.1], u ∈ xtb) (hh : mi'.2.2.2.2.1 = []) (hcl : xcl mi mi' y as.length)
    (hsum : (st.map fun v => if xcat2 v then 2 else 1).sum ≤ 8) (hk : k1 ≤ k ∧ n1 ≤ n) (hK : K w mi' y k1 n1 as S A (fun _ _ => False))
    (hA : ∀ v S', A v S' → X w mi TG (k - k1) (n - n1) pc' L (v.toList ++ st) S') (hj : st.all (fun v => !xjk v) = true) : X w mi TG k n pc L (as.reverse ++ st) S := by
  obtain ⟨hd, rfl⟩ := h
  intro p l e R s m args below meth c H locs cells slots MC MS ls hC hB hR hS hl hL hst
  have hok : ∀ v ∈ as, xok v := fun v hv => hst v (List.mem_append_left _ (List.mem_reverse.mpr hv))
  have hst2 : ∀ v ∈ st, xok v := fun v hv => hst v (List.mem_append_right _ hv)
  have e0 : xw0 mi' y = .code y mi'.2.1 mi'.2.2.1 mi'.2.2.2.1 := by unfold xw0; rw [hh]
  have hG : GoodIn xtb (xws mi' y) := by
    intro u hu
    have h9 : u ∈ xtb := by
      unfold xws at hu
      rw [e0] at hu
      rcases List.mem_cons.mp hu with h | h
      · exact hw u (by rw [h]; simp)
      · exact h
    exact xtb_good (fun _ h => h) u h9
  have hM : Met l y (xws mi' y) (xrm mi' k1 n1) (va_Pc (as.map (xc w.1)) (xPc w S)) (xQc w A) k1 n1 (xfr w) := by
    refine MetFree.mono (hK l hC.2.2.2.2.2.2.2.2.2.1 hok) (fun a s hp => hp) (fun _ _ _ _ _ hk => hk) (fun a st o t _ hq => ?_)
    rcases hq with hq | ⟨q, h1, E, ce, L, ⟨⟨S', h3, h4⟩, hF⟩, h5⟩
    · exact hq
    · exact h3.elim
  have hrc := hcl.2
  have hSt := hC.2.2.2.2.2.2.2.2.2.2
  have hnw : va_Nw (.methodLinkNest mi.1 idx y host) s := hSt.2.2.2.2.2.2.2.1 _ hn
  have hts := hC.2.2.2.2.2.1
  refine xa_run (B := fun _ _ => False) (k1 := k1) (n1 := n1) (a := (as.map (xc w.1)).toArray) hC hB hS hl hL hst2 hk ?_ hA (fun _ _ h => h.elim)
  have hrun : va_Run p l e R s m args below meth c H locs cells slots k1 n1 (F0 m pc ls (List.map (xc w.1) (as.reverse ++ st))) (st.map (xc w.1)) (xQc w A (as.map (xc w.1)).toArray) (xfr w) := by
    refine va_runSN (As := as.map (xc w.1)) (rest := st.map (xc w.1)) (index := idx) (maxL := mi'.2.2.1) (ret := mi'.2.2.2.1) (bytes := mi'.2.1) (n := as.length) (nL := mi.2.2.1) (cc := mi.2.1) (own := mi.1) (Ts := xtb) (host := host) ⟨hC.1, hC.2.1, hC.2.2.2.1, hC.2.2.2.2.1, hts⟩ hM
      ⟨va_cnB (ws' := xtb) as.length hts hG (by rw [xws, e0]) rfl rfl hnw (hts _ (hw _ (by simp))) hcl.1 ⟨Nat.le_trans hrc.1 hC.2.2.2.2.2.2.2.2.1.1, Nat.le_trans hrc.2 hC.2.2.2.2.2.2.2.2.1.2⟩, hts _ (hw _ (by simp)), trivial⟩
      ⟨xPc_blind, fun U hU hW => ⟨rfl, xPc_at hR hC.2.2.2.2.2.2.2.2.2.2 hS U hU hW⟩⟩ rfl (List.length_map _) hl.2.1 ?_ ?_ hd ?_
    · show List.map (xc w.1) (as.reverse ++ st) = _
      rw [List.map_append, List.map_reverse]
    · show 2 * 0 + _ ≤ 8
      rw [List.map_map]
      have e9 : ∀ v ∈ st, ((fun v => v.category) ∘ xc w.1) v = if xcat2 v then 2 else 1 := by
        intro v hv
        have hjv : xjk v = false := by simpa using List.all_eq_true.mp hj v hv
        show (xc w.1 v).category = _
        by_cases q : xcat2 v = true
        · rw [if_pos q]; exact (xcat_iff hjv).mpr q
        · rw [if_neg q]; exact xn_cat1 (by simpa using q)
      rw [List.map_congr_left e9]
      omega
    · omega
  intro T hT X0
  obtain ⟨v, st₀, t, T', L', g1, g2, g3, g4, g5, g6, g7⟩ := hrun T hT X0
  exact Or.inl ⟨v, st₀, t, T', L', g1, g2, g3, g4, g5, g6, g7⟩
/-! exceptions -/
/-- it goes on to the caller -/
theorem xt_out {E : String} (hh : mi.2.2.2.2.1 = []) (hq : B E S) : XT w mi (xTG w A B) k n pc L st E S := by
  intro p l e R s m args below meth c H locs cells slots MC MS ls q ce hC hB hR hS hl hL hst hce hv hcl
  refine vx_out (E := E) (ce := ce) (fun x hx => ?_) hC.2.2.2.2.2.2.1 hce hv hcl (fun t ht hvm => ⟨⟨S, hq, by rw [ht]; exact hR⟩, hS.F ht⟩) hS.2.2 (by omega) (by omega)
  rw [hC.2.2.2.2.2.2.2.1, hh] at hx
  cases hx
/-- it is caught by a row of the table; rows ahead of it name other classes -/
theorem xt_catch {E : String} (pre : List ExceptionTableEntry) (x : ExceptionTableEntry) (suf : List ExceptionTableEntry) (hsplit : tableOf mi.2.2.2.2.1 = pre ++ x :: suf)
    (hpass : ∀ z ∈ pre, covers z pc = false ∨ (z.catchType ≠ 0 ∧ ∃ nm : String, Cond.classLink mi.1 z.catchType nm ∈ xtb ∧ (E, nm) ∈ xnot)) (hx : covers x pc = true) (h0 : x.catchType ≠ 0) (hlink : Cond.classLink mi.1 x.catchType E ∈ xtb) (hcast : (E, E) ∈ xcast)
    (kk : ∀ q, X w mi TG k n x.handlerPc L [xv (.ref q)] S) : XT w mi TG k n pc L st E S := by
  intro p l e R s m args below meth c H locs cells slots MC MS ls q ce hC hB hR hS hl hL hst hce hv hcl
  have hSt := hC.2.2.2.2.2.2.2.2.2.2
  refine vx_catch hC.2.2.2.2.1 pre x suf (by rw [hC.2.2.2.2.2.2.2.1]; exact hsplit) (fun z hz => ?_) hx h0 (hC.2.2.2.2.2.1 _ hlink) (va_Nw.use rfl (hSt.2.2.2.2.2.1 _ hcast)) hce hv hcl ?_
  · rcases hpass z hz with h | ⟨h1, nm, h2, h3⟩
    · exact Or.inl h
    · exact Or.inr ⟨h1, nm, hC.2.2.2.2.2.1 _ h2, hSt.2.2.2.2.2.2.2.2 _ h3⟩
  · exact kk q p l e R s m args below meth c H locs cells slots MC MS ls hC hB hR hS hl hL (xok_of (v := xv (.ref q)) trivial (fun v hv => nomatch hv))
end XC
end
section
/-! rows of the abstract machine, on: throws, statics, texts, Math, copies, floating point, switches, the script -/
theorem xst0 {l : Launch} (h : l.flags = flags0) : l.stackTraces = false := by
  unfold Launch.stackTraces
  rw [h]
  decide +kernel
section XM
variable {w : xW} {mi : xM} {TG : xT} {k n pc pc' : Nat} {L st : List xV} {S : xS} {A : Option xV → xS → Prop} {B : String → xS → Prop}
theorem xt_words {args : Array Value} {s : State} {own cls : String} {ic : Nat} {names : List String} (hts : ∀ w ∈ xtb, w.before args s = true) (hSt : xSta w s s.heap) (h1 : ∀ z ∈ (vx_atS own ic cls names).filter goodWord, z ∈ xtb) (h2 : ∀ z ∈ (vx_atS own ic cls names).filter (fun z => !goodWord z), z ∈ xcast.map (fun q => Cond.castable q.1 q.2) ++ xdecl.map (fun q => Cond.declares q)) :
    ∀ z ∈ vx_atS own ic cls names, z.before args s = true := by
  refine vx_hat (B := xcast.map (fun q => Cond.castable q.1 q.2) ++ xdecl.map (fun q => Cond.declares q)) (fun z hz => hts z (h1 z hz)) h2 (fun z hz => ?_)
  obtain ⟨d1, d2, -⟩ := hSt.2.2.2.2.2
  rcases List.mem_append.mp hz with h | h
  · obtain ⟨q, hq, rfl⟩ := List.mem_map.mp h
    exact va_Nw.use rfl (d1 q hq)
  · obtain ⟨q, hq, rfl⟩ := List.mem_map.mp h
    exact va_Nw.use rfl (d2 q hq)
theorem xa_throwS {p1 p2 p3 p4 p5 ik is ic sn : Nat} {cls text : String} {names : List String} (d0 : xd mi.2.1 pc (.new ik) 3 p1) (d3 : xd mi.2.1 p1 .dup 1 p2) (d4 : xd mi.2.1 p2 (.ldc is) 2 p3) (d6 : xd mi.2.1 p3 (.invokespecial ic) 3 p4) (d9 : xd mi.2.1 p4 .athrow 1 p5)
    (hcls : Bundle.fit cls = true) (hnames : ∀ q ∈ names, Bundle.fit q = true) (hk : Cond.classLink mi.1 ik cls ∈ xtb) (hini : Cond.initialized cls ∈ xtb) (hstr : (mi.1, is, text, sn) ∈ xstr) (h1 : ∀ z ∈ (vx_atS mi.1 ic cls names).filter goodWord, z ∈ xtb) (h2 : ∀ z ∈ (vx_atS mi.1 ic cls names).filter (fun z => !goodWord z), z ∈ xcast.map (fun q => Cond.castable q.1 q.2) ++ xdecl.map (fun q => Cond.declares q))
    (hgood : ∀ z ∈ Cond.classLink mi.1 ik cls :: Cond.initialized cls :: vx_atS mi.1 ic cls names, vx_ot z = true) (hh : mi.2.2.2.2.1 = []) (hfr : names.length + 3 < mi.2.2.2.2.2.1) (hlo : 13 * (names.length + 1) + 43 ≤ mi.2.2.2.2.2.2) (hk1 : 1 ≤ k) (hn6 : 6 ≤ n) (hq : B cls S) : X w mi (xTG w A B) k n pc L [] S := by
  obtain ⟨d0, rfl⟩ := d0; obtain ⟨d3, rfl⟩ := d3; obtain ⟨d4, rfl⟩ := d4; obtain ⟨d6, rfl⟩ := d6; obtain ⟨d9, -⟩ := d9
  intro p l e R s m args below meth c H locs cells slots MC MS ls hC hB hR hS hl hL hst
  have hSt := hC.2.2.2.2.2.2.2.2.2.2
  refine vx_throwS (names := names) (A := xfr w) hC.1 hC.2.1 (xst0 hC.2.2.2.2.2.2.2.2.2.1) hC.2.2.2.2.1 hcls hnames (hC.2.2.2.2.2.1 _ hk) (hC.2.2.2.2.2.1 _ hini) (hSt.2.2.2.1.2.1 _ hstr) (xt_words hC.2.2.2.2.2.1 hSt h1 h2) hgood hSt.2.2.2.2.1.1 hSt.2.2.2.2.1.2 hS (by rw [hl.2.1]; exact hC.2.2.2.1.symm)
    d0 d3 d4 d6 d9 (fun x hx => ?_) (Nat.lt_of_lt_of_le hfr hC.2.2.2.2.2.2.2.2.1.1) (by show 0 + _ ≤ _; have := hC.2.2.2.2.2.2.2.2.1.2; omega) (by omega) (by omega) hC.2.2.2.2.2.2.1 (fun t hvm hz hk9 => ⟨⟨S, hq, ?_⟩, Nat.le_trans hS.1 hz, fun a h3 h4 => ?_⟩) hS.2.2 (by omega) (by omega)
  · rw [hC.2.2.2.2.2.2.2.1, hh] at hx
    cases hx
  · exact ⟨hR.1.kept (fun i q hi => hk9 q.1 (hR.1 i q hi).lt), hR.2.1, hR.2.2⟩
  · rw [hk9 a (Nat.lt_of_lt_of_le h3 hS.1)]
    exact hS.2.1 a h3 h4
theorem xa_throwSW {p1 p2 p3 p4 p5 ik is ic sn : Nat} {cls text : String} {names : List String} (d0 : xd mi.2.1 pc (.new ik) 3 p1) (d3 : xd mi.2.1 p1 .dup 1 p2) (d4 : xd mi.2.1 p2 (.ldc_w is) 3 p3) (d6 : xd mi.2.1 p3 (.invokespecial ic) 3 p4) (d9 : xd mi.2.1 p4 .athrow 1 p5)
    (hcls : Bundle.fit cls = true) (hnames : ∀ q ∈ names, Bundle.fit q = true) (hk : Cond.classLink mi.1 ik cls ∈ xtb) (hini : Cond.initialized cls ∈ xtb) (hstr : (mi.1, is, text, sn) ∈ xstr) (h1 : ∀ z ∈ (vx_atS mi.1 ic cls names).filter goodWord, z ∈ xtb) (h2 : ∀ z ∈ (vx_atS mi.1 ic cls names).filter (fun z => !goodWord z), z ∈ xcast.map (fun q => Cond.castable q.1 q.2) ++ xdecl.map (fun q => Cond.declares q))
    (hgood : ∀ z ∈ Cond.classLink mi.1 ik cls :: Cond.initialized cls :: vx_atS mi.1 ic cls names, vx_ot z = true) (hh : mi.2.2.2.2.1 = []) (hfr : names.length + 3 < mi.2.2.2.2.2.1) (hlo : 13 * (names.length + 1) + 43 ≤ mi.2.2.2.2.2.2) (hk1 : 1 ≤ k) (hn6 : 6 ≤ n) (hq : B cls S) : X w mi (xTG w A B) k n pc L [] S := by
  obtain ⟨d0, rfl⟩ := d0; obtain ⟨d3, rfl⟩ := d3; obtain ⟨d4, rfl⟩ := d4; obtain ⟨d6, rfl⟩ := d6; obtain ⟨d9, -⟩ := d9
  intro p l e R s m args below meth c H locs cells slots MC MS ls hC hB hR hS hl hL hst
  have hSt := hC.2.2.2.2.2.2.2.2.2.2
  refine vx_throwSW (names := names) (A := xfr w) hC.1 hC.2.1 (xst0 hC.2.2.2.2.2.2.2.2.2.1) hC.2.2.2.2.1 hcls hnames (hC.2.2.2.2.2.1 _ hk) (hC.2.2.2.2.2.1 _ hini) (hSt.2.2.2.1.2.1 _ hstr) (xt_words hC.2.2.2.2.2.1 hSt h1 h2) hgood hSt.2.2.2.2.1.1 hSt.2.2.2.2.1.2 hS (by rw [hl.2.1]; exact hC.2.2.2.1.symm)
    d0 d3 d4 d6 d9 (fun x hx => ?_) (Nat.lt_of_lt_of_le hfr hC.2.2.2.2.2.2.2.2.1.1) (by show 0 + _ ≤ _; have := hC.2.2.2.2.2.2.2.2.1.2; omega) (by omega) (by omega) hC.2.2.2.2.2.2.1 (fun t hvm hz hk9 => ⟨⟨S, hq, ?_⟩, Nat.le_trans hS.1 hz, fun a h3 h4 => ?_⟩) hS.2.2 (by omega) (by omega)
  · rw [hC.2.2.2.2.2.2.2.1, hh] at hx
    cases hx
  · exact ⟨hR.1.kept (fun i q hi => hk9 q.1 (hR.1 i q hi).lt), hR.2.1, hR.2.2⟩
  · rw [hk9 a (Nat.lt_of_lt_of_le h3 hS.1)]
    exact hS.2.1 a h3 h4
end XM
end
section
/-! rows of the abstract machine, on -/
section XM
variable {w : xW} {mi : xM} {TG : xT} {k n pc pc' : Nat} {L st : List xV} {S : xS} {A : Option xV → xS → Prop} {B : String → xS → Prop}
/-- a constant of the enum -/
theorem xa_tok {index i : Nat} (h : xd mi.2.1 pc (.getstatic index) 3 pc') (hi : i < 1) (hw : Cond.fieldLink mi.1 index "PromiseMarket$Token" (["END"].getD i "") "LPromiseMarket$Token;" ∈ xtb) (kk : X w mi TG k n pc' L (xp 50 i :: st) S) : X w mi TG k n pc L st S := by
  obtain ⟨hd, rfl⟩ := h
  intro p l e R s m args below meth c H locs cells slots MC MS ls hC hB hR hS hl hL hst
  have hE := (hC.2.2.2.2.2.2.2.2.2.2).2.2.1.1
  exact va_gets (A := xfr w) hC.1 hC.2.1 (hE.1 i hi).1 hS hC.2.2.2.2.1 (hC.2.2.2.2.2.1 _ hw) (fun _ h9 => h9) hd (kk p l e R s m args below meth c H locs cells slots MC MS ls hC hB hR hS hl hL (xok_of (v := xp 50 i) rfl hst))
theorem xa_acmp_eq {a b : Nat} {off : Int} {tgt : Nat} (h : xd mi.2.1 pc (.if_acmp .eq off) 3 pc') (ht : (pc : Int) + off = (tgt : Int)) (ha : a < 1) (hb : b < 1) (kt : a = b → X w mi TG k n tgt L st S) (kf : a ≠ b → X w mi TG k n pc' L st S) : X w mi TG k n pc L (xp 50 b :: xp 50 a :: st) S := by
  obtain ⟨hd, rfl⟩ := h
  intro p l e R s m args below meth c H locs cells slots MC MS ls hC hB hR hS hl hL hst
  have hE := (hC.2.2.2.2.2.2.2.2.2.2).2.2.1.1
  have hst2 := (xok_cons (xok_cons hst).2).2
  exact lv_acmp_eq (rx := some (w.1 50 a)) (ry := some (w.1 50 b)) hC.1 hC.2.1 hd ht (fun z => kt (hE.2 a b ha hb (Option.some.inj z)) p l e R s m args below meth c H locs cells slots MC MS ls hC hB hR hS hl hL hst2) (fun z => kf (fun q => z (by rw [q])) p l e R s m args below meth c H locs cells slots MC MS ls hC hB hR hS hl hL hst2)
theorem xa_acmp_ne {a b : Nat} {off : Int} {tgt : Nat} (h : xd mi.2.1 pc (.if_acmp .ne off) 3 pc') (ht : (pc : Int) + off = (tgt : Int)) (ha : a < 1) (hb : b < 1) (kt : a ≠ b → X w mi TG k n tgt L st S) (kf : a = b → X w mi TG k n pc' L st S) : X w mi TG k n pc L (xp 50 b :: xp 50 a :: st) S := by
  obtain ⟨hd, rfl⟩ := h
  intro p l e R s m args below meth c H locs cells slots MC MS ls hC hB hR hS hl hL hst
  have hE := (hC.2.2.2.2.2.2.2.2.2.2).2.2.1.1
  have hst2 := (xok_cons (xok_cons hst).2).2
  exact lv_acmp_ne (rx := some (w.1 50 a)) (ry := some (w.1 50 b)) hC.1 hC.2.1 hd ht (fun z => kt (fun q => z (by rw [q])) p l e R s m args below meth c H locs cells slots MC MS ls hC hB hR hS hl hL hst2) (fun z => kf (hE.2 a b ha hb (Option.some.inj z)) p l e R s m args below meth c H locs cells slots MC MS ls hC hB hR hS hl hL hst2)
/-- a text -/
theorem xa_ldcS {index i : Nat} {tx : String} (h : xd mi.2.1 pc (.ldc index) 2 pc') (hs : (mi.1, index, tx, i) ∈ xstr) (kk : X w mi TG k n pc' L (xp 51 i :: st) S) : X w mi TG k n pc L st S := by
  obtain ⟨hd, rfl⟩ := h
  intro p l e R s m args below meth c H locs cells slots MC MS ls hC hB hR hS hl hL hst
  have hSt := hC.2.2.2.2.2.2.2.2.2.2
  exact va_ldcS hC.1 hC.2.1 hC.2.2.2.2.1 (hSt.2.2.2.1.2.1 _ hs) hd (kk p l e R s m args below meth c H locs cells slots MC MS ls hC hB hR hS hl hL (xok_of (v := xp 51 i) rfl hst))
theorem xa_ldcwS {index i : Nat} {tx : String} (h : xd mi.2.1 pc (.ldc_w index) 3 pc') (hs : (mi.1, index, tx, i) ∈ xstr) (kk : X w mi TG k n pc' L (xp 51 i :: st) S) : X w mi TG k n pc L st S := by
  obtain ⟨hd, rfl⟩ := h
  intro p l e R s m args below meth c H locs cells slots MC MS ls hC hB hR hS hl hL hst
  have hSt := hC.2.2.2.2.2.2.2.2.2.2
  have hZ := hSt.2.2.2.1.2.1 _ hs
  have hk := kk p l e R s m args below meth c H locs cells slots MC MS ls hC hB hR hS hl hL (xok_of (v := xp 51 i) rfl hst)
  intro T hT X0
  obtain ⟨t, a1, b1⟩ := hk T hT X0
  exact ⟨t, X0.ldcStringW hC.1 hC.2.2.2.2.1 (text := tx) (a := w.1 51 i) hZ.1 hZ.2 (g := F0 m pc ls (st.map (xc w.1))) rfl (by rw [hC.2.1]; exact hd) t a1, b1⟩
def xmin (a b : Int) : Int := if b < a then b else a
def xmax (a b : Int) : Int := if a < b then b else a
theorem xa_min {a b : Int} {idx : Nat} (h : xd mi.2.1 pc (.invokestatic idx) 3 pc') (hw1 : Cond.methodLink mi.1 idx Lib.Math.min.name ∈ xtb) (hw2 : Cond.static Lib.Math.min.name ∈ xtb) (hw3 : Cond.initialized "java/lang/Math" ∈ xtb) (hw4 : Cond.code Lib.Math.min.name Lib.Math.min.code 2 (some .int) ∈ xtb) (hfr : 1 ≤ mi.2.2.2.2.2.1) (hlo : (st.map fun v => if xcat2 v then 2 else 1).sum + 13 ≤ mi.2.2.2.2.2.2) (hj : st.all (fun v => !xjk v) = true)
    (ha : xr a) (hb : xr b) (kk : X w mi TG k n pc' L (xi (xmin a b) :: st) S) : X w mi TG k n pc L (xi b :: xi a :: st) S := by
  obtain ⟨hd, rfl⟩ := h
  intro p l e R s m args below meth c H locs cells slots MC MS ls hC hB hR hS hl hL hst
  have h9 := kk p l e R s m args below meth c H locs cells slots MC MS ls hC hB hR hS hl hL (xok_of (v := xi (xmin a b)) trivial (xok_cons (xok_cons hst).2).2)
  have e9 : xc w.1 (xi (xmin a b)) = Value.int (if Int32.ofInt b < Int32.ofInt a then Int32.ofInt b else Int32.ofInt a) := by
    refine congrArg Value.int ?_
    unfold xmin
    by_cases q : b < a
    · rw [if_pos q, if_pos ((xn_lt hb ha).mpr q)]
    · rw [if_neg q, if_neg (fun z => q ((xn_lt hb ha).mp z))]
  rw [List.map_cons, e9] at h9
  have hts := hC.2.2.2.2.2.1
  refine va_mmin hC.1 hC.2.1 (by rw [hl.2.1]; exact hC.2.2.2.1) hC.2.2.2.2.1 (hts _ hw1) (hts _ hw2) (hts _ hw3) (hts _ hw4) (Nat.le_trans hfr hC.2.2.2.2.2.2.2.2.1.1) (Nat.le_trans ?_ hC.2.2.2.2.2.2.2.2.1.2) (by omega) (by omega) hd h9
  rw [List.map_map]
  have e8 : ∀ v ∈ st, ((fun v => v.category) ∘ xc w.1) v = if xcat2 v then 2 else 1 := by
    intro v hv
    have hjv : xjk v = false := by simpa using List.all_eq_true.mp hj v hv
    show (xc w.1 v).category = _
    by_cases q : xcat2 v = true
    · rw [if_pos q]; exact (xcat_iff hjv).mpr q
    · rw [if_neg q]; exact xn_cat1 (by simpa using q)
  rw [List.map_congr_left e8]
  exact hlo
theorem xa_max {a b : Int} {idx : Nat} (h : xd mi.2.1 pc (.invokestatic idx) 3 pc') (hw1 : Cond.methodLink mi.1 idx Lib.Math.max.name ∈ xtb) (hw2 : Cond.static Lib.Math.max.name ∈ xtb) (hw3 : Cond.initialized "java/lang/Math" ∈ xtb) (hw4 : Cond.code Lib.Math.max.name Lib.Math.max.code 2 (some .int) ∈ xtb) (hfr : 1 ≤ mi.2.2.2.2.2.1) (hlo : (st.map fun v => if xcat2 v then 2 else 1).sum + 13 ≤ mi.2.2.2.2.2.2) (hj : st.all (fun v => !xjk v) = true)
    (ha : xr a) (hb : xr b) (kk : X w mi TG k n pc' L (xi (xmax a b) :: st) S) : X w mi TG k n pc L (xi b :: xi a :: st) S := by
  obtain ⟨hd, rfl⟩ := h
  intro p l e R s m args below meth c H locs cells slots MC MS ls hC hB hR hS hl hL hst
  have h9 := kk p l e R s m args below meth c H locs cells slots MC MS ls hC hB hR hS hl hL (xok_of (v := xi (xmax a b)) trivial (xok_cons (xok_cons hst).2).2)
  have e9 : xc w.1 (xi (xmax a b)) = Value.int (if Int32.ofInt a < Int32.ofInt b then Int32.ofInt b else Int32.ofInt a) := by
    refine congrArg Value.int ?_
    unfold xmax
    by_cases q : a < b
    · rw [if_pos q, if_pos ((xn_lt ha hb).mpr q)]
    · rw [if_neg q, if_neg (fun z => q ((xn_lt ha hb).mp z))]
  rw [List.map_cons, e9] at h9
  have hts := hC.2.2.2.2.2.1
  refine va_mmax hC.1 hC.2.1 (by rw [hl.2.1]; exact hC.2.2.2.1) hC.2.2.2.2.1 (hts _ hw1) (hts _ hw2) (hts _ hw3) (hts _ hw4) (Nat.le_trans hfr hC.2.2.2.2.2.2.2.2.1.1) (Nat.le_trans ?_ hC.2.2.2.2.2.2.2.2.1.2) (by omega) (by omega) hd h9
  rw [List.map_map]
  have e8 : ∀ v ∈ st, ((fun v => v.category) ∘ xc w.1) v = if xcat2 v then 2 else 1 := by
    intro v hv
    have hjv : xjk v = false := by simpa using List.all_eq_true.mp hj v hv
    show (xc w.1 v).category = _
    by_cases q : xcat2 v = true
    · rw [if_pos q]; exact (xcat_iff hjv).mpr q
    · rw [if_neg q]; exact xn_cat1 (by simpa using q)
  rw [List.map_congr_left e8]
  exact hlo
/-! switches -/
theorem xa_tabIn {a dflt lo hi off : Int} {offs : Array Int} {len tgt : Nat} (h : xd mi.2.1 pc (.tableswitch dflt lo hi offs) len pc') (ha : xr a) (h1 : lo ≤ a) (h2 : a ≤ hi) (ho : offs[(a - lo).toNat]? = some off) (ht : (pc : Int) + off = (tgt : Int)) (kk : X w mi TG k n tgt L st S) : X w mi TG k n pc L (xi a :: st) S := by
  obtain ⟨hd, rfl⟩ := h
  intro p l e R s m args below meth c H locs cells slots MC MS ls hC hB hR hS hl hL hst
  have e9 := xn_ti ha
  exact lv_tableIn hC.1 hC.2.1 hd (by rw [e9]; omega) (by rw [e9]; omega) (by rw [e9]; exact ho) ht (kk p l e R s m args below meth c H locs cells slots MC MS ls hC hB hR hS hl hL (xok_cons hst).2)
theorem xa_tabOut {a dflt lo hi : Int} {offs : Array Int} {len tgt : Nat} (h : xd mi.2.1 pc (.tableswitch dflt lo hi offs) len pc') (ha : xr a) (h1 : a < lo ∨ hi < a) (ht : (pc : Int) + dflt = (tgt : Int)) (kk : X w mi TG k n tgt L st S) : X w mi TG k n pc L (xi a :: st) S := by
  obtain ⟨hd, rfl⟩ := h
  intro p l e R s m args below meth c H locs cells slots MC MS ls hC hB hR hS hl hL hst
  have e9 := xn_ti ha
  exact lv_tableOut hC.1 hC.2.1 hd (by rw [e9]; exact h1) ht (kk p l e R s m args below meth c H locs cells slots MC MS ls hC hB hR hS hl hL (xok_cons hst).2)
/-! the script -/
theorem xa_sld {a : Int} (h : xd mi.2.1 pc .iaload 1 pc') (ha : 0 ≤ a ∧ a < w.2.2.2.2.2.1) (hN : w.2.2.2.2.2.1 < 2147483648) (kk : X w mi TG k n pc' L (xi (w.2.2.2.2.2.2 a.toNat).toInt :: st) S) : X w mi TG k n pc L (xi a :: xp 52 0 :: st) S := by
  obtain ⟨hd, rfl⟩ := h
  intro p l e R s m args below meth c H locs cells slots MC MS ls hC hB hR hS hl hL hst
  have hSt := hC.2.2.2.2.2.2.2.2.2.2
  have h9 := kk p l e R s m args below meth c H locs cells slots MC MS ls hC hB hR hS hl hL (xok_of (v := xi (w.2.2.2.2.2.2 a.toNat).toInt) trivial (xok_cons (xok_cons hst).2).2)
  rw [List.map_cons, show xc w.1 (xi (w.2.2.2.2.2.2 a.toNat).toInt) = Value.int (w.2.2.2.2.2.2 a.toNat) from congrArg Value.int (Int32.ofInt_toInt _), ← xn_nat (a := a) (by omega) ha.1] at h9
  exact va_sld (A := xfr w) (xs := w.2.2.2.2.2.2) hC.1 hC.2.1 hSt.2.2.1.2.1 (Nat.lt_of_lt_of_le hSt.2.2.1.2.2 hSt.2.1) (Nat.not_le.mpr hSt.2.2.1.2.2) hS (xn_in ha hN) hd h9
theorem xa_slen (h : xd mi.2.1 pc .arraylength 1 pc') (kk : X w mi TG k n pc' L (xi w.2.2.2.2.2.1 :: st) S) : X w mi TG k n pc L (xp 52 0 :: st) S := by
  obtain ⟨hd, rfl⟩ := h
  intro p l e R s m args below meth c H locs cells slots MC MS ls hC hB hR hS hl hL hst
  have hSt := hC.2.2.2.2.2.2.2.2.2.2
  have h9 := kk p l e R s m args below meth c H locs cells slots MC MS ls hC hB hR hS hl hL (xok_of (v := xi (w.2.2.2.2.2.1 : Int)) trivial (xok_cons hst).2)
  rw [List.map_cons, show xc w.1 (xi (w.2.2.2.2.2.1 : Int)) = Value.int (Int32.ofNat w.2.2.2.2.2.1) from congrArg Value.int Int32.ofInt_eq_ofNat] at h9
  exact va_slen (A := xfr w) (xs := w.2.2.2.2.2.2) hC.1 hC.2.1 hSt.2.2.1.2.1 (Nat.lt_of_lt_of_le hSt.2.2.1.2.2 hSt.2.1) (Nat.not_le.mpr hSt.2.2.1.2.2) hS hd h9
/-! floating point -/
theorem xa_i2d {a : Int} (h : xd mi.2.1 pc .i2d 1 pc') (kk : X w mi TG k n pc' L (xv (.double (FP.i2d (Int32.ofInt a))) :: st) S) : X w mi TG k n pc L (xi a :: st) S := by
  obtain ⟨hd, rfl⟩ := h
  intro p l e R s m args below meth c H locs cells slots MC MS ls hC hB hR hS hl hL hst
  exact lv_i2d hC.1 hC.2.1 hd (kk p l e R s m args below meth c H locs cells slots MC MS ls hC hB hR hS hl hL (xok_of (v := xv (.double _)) trivial (xok_cons hst).2))
theorem xa_i2f {a : Int} (h : xd mi.2.1 pc .i2f 1 pc') (kk : X w mi TG k n pc' L (xv (.float (FP.i2f (Int32.ofInt a))) :: st) S) : X w mi TG k n pc L (xi a :: st) S := by
  obtain ⟨hd, rfl⟩ := h
  intro p l e R s m args below meth c H locs cells slots MC MS ls hC hB hR hS hl hL hst
  exact lv_i2f hC.1 hC.2.1 hd (kk p l e R s m args below meth c H locs cells slots MC MS ls hC hB hR hS hl hL (xok_of (v := xv (.float _)) trivial (xok_cons hst).2))
theorem xa_dconst0 (h : xd mi.2.1 pc (.dconst 0) 1 pc') (kk : X w mi TG k n pc' L (xv (.double 0) :: st) S) : X w mi TG k n pc L st S := by
  obtain ⟨hd, rfl⟩ := h
  intro p l e R s m args below meth c H locs cells slots MC MS ls hC hB hR hS hl hL hst
  exact lv_dconst0 hC.1 hC.2.1 hd (kk p l e R s m args below meth c H locs cells slots MC MS ls hC hB hR hS hl hL (xok_of (v := xv (.double 0)) trivial hst))
theorem xa_ddiv {a b : UInt64} (h : xd mi.2.1 pc .ddiv 1 pc') (hv : vf_n64 (FP.ddiv a b)) (kk : X w mi TG k n pc' L (xv (.double (FP.ddiv a b)) :: st) S) : X w mi TG k n pc L (xv (.double b) :: xv (.double a) :: st) S := by
  obtain ⟨hd, rfl⟩ := h
  intro p l e R s m args below meth c H locs cells slots MC MS ls hC hB hR hS hl hL hst
  exact lv_ddiv hC.1 hC.2.1 hd hv (kk p l e R s m args below meth c H locs cells slots MC MS ls hC hB hR hS hl hL (xok_of (v := xv (.double _)) trivial (xok_cons (xok_cons hst).2).2))
theorem xa_dadd {a b : UInt64} (h : xd mi.2.1 pc .dadd 1 pc') (hv : vf_n64 (FP.dadd a b)) (kk : X w mi TG k n pc' L (xv (.double (FP.dadd a b)) :: st) S) : X w mi TG k n pc L (xv (.double b) :: xv (.double a) :: st) S := by
  obtain ⟨hd, rfl⟩ := h
  intro p l e R s m args below meth c H locs cells slots MC MS ls hC hB hR hS hl hL hst
  exact lv_dadd hC.1 hC.2.1 hd hv (kk p l e R s m args below meth c H locs cells slots MC MS ls hC hB hR hS hl hL (xok_of (v := xv (.double _)) trivial (xok_cons (xok_cons hst).2).2))
theorem xa_fdiv {a b : UInt32} (h : xd mi.2.1 pc .fdiv 1 pc') (hv : vf_n32 (FP.fdiv a b)) (kk : X w mi TG k n pc' L (xv (.float (FP.fdiv a b)) :: st) S) : X w mi TG k n pc L (xv (.float b) :: xv (.float a) :: st) S := by
  obtain ⟨hd, rfl⟩ := h
  intro p l e R s m args below meth c H locs cells slots MC MS ls hC hB hR hS hl hL hst
  exact lv_fdiv hC.1 hC.2.1 hd hv (kk p l e R s m args below meth c H locs cells slots MC MS ls hC hB hR hS hl hL (xok_of (v := xv (.float _)) trivial (xok_cons (xok_cons hst).2).2))
theorem xa_f2d {a : UInt32} (h : xd mi.2.1 pc .f2d 1 pc') (hv : vf_n64 (FP.f2d a)) (kk : X w mi TG k n pc' L (xv (.double (FP.f2d a)) :: st) S) : X w mi TG k n pc L (xv (.float a) :: st) S := by
  obtain ⟨hd, rfl⟩ := h
  intro p l e R s m args below meth c H locs cells slots MC MS ls hC hB hR hS hl hL hst
  exact lv_f2d hC.1 hC.2.1 hd hv (kk p l e R s m args below meth c H locs cells slots MC MS ls hC hB hR hS hl hL (xok_of (v := xv (.double _)) trivial (xok_cons hst).2))
theorem xa_ldcf {index : Nat} {v : UInt32} (h : xd mi.2.1 pc (.ldc index) 2 pc') (hw : Cond.constantFloat mi.1 index v ∈ xtb) (kk : X w mi TG k n pc' L (xv (.float v) :: st) S) : X w mi TG k n pc L st S := by
  obtain ⟨hd, rfl⟩ := h
  intro p l e R s m args below meth c H locs cells slots MC MS ls hC hB hR hS hl hL hst
  exact lv_ldcf hC.1 hC.2.1 hC.2.2.2.2.1 (hC.2.2.2.2.2.1 _ hw) hd (kk p l e R s m args below meth c H locs cells slots MC MS ls hC hB hR hS hl hL (xok_of (v := xv (.float v)) trivial hst))
theorem xa_dcmp {a b : UInt64} {op : CmpOp} {z : Int} (h : xd mi.2.1 pc (.dcmp op) 1 pc') (hz : Op.cmpValue (FP.dcmp a b) op = Int32.ofInt z) (kk : X w mi TG k n pc' L (xi z :: st) S) : X w mi TG k n pc L (xv (.double b) :: xv (.double a) :: st) S := by
  obtain ⟨hd, rfl⟩ := h
  intro p l e R s m args below meth c H locs cells slots MC MS ls hC hB hR hS hl hL hst
  have h9 := kk p l e R s m args below meth c H locs cells slots MC MS ls hC hB hR hS hl hL (xok_of (v := xi z) trivial (xok_cons (xok_cons hst).2).2)
  rw [List.map_cons, show xc w.1 (xi z) = Value.int (Op.cmpValue (FP.dcmp a b) op) from congrArg Value.int hz.symm] at h9
  exact lv_dcmp hC.1 hC.2.1 hd h9
end XM
end
