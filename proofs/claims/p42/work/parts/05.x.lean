/-! X: from here the method comes to its end, whatever stands below -/
abbrev xM : Type := String × ByteArray × Nat × Option FieldType × List (Nat × Nat × Nat × Nat) × Nat × Nat
/-- the strings of the claim: where, text, number -/
def xstr : List (String × Nat × String × Nat) := [("PromiseMarket$State", 83, "there is no such process", 6), ("PromiseMarket$Timeline", 31, "there is no such promise", 7), ("PromiseMarket", 250, "an argument is out of range", 8), ("PromiseMarket", 257, "the state does not allow this call", 9)]
def xcast : List (String × String) := [("java/lang/IndexOutOfBoundsException", "java/lang/IndexOutOfBoundsException"), ("java/lang/IllegalArgumentException", "java/lang/IllegalArgumentException"), ("java/lang/IllegalStateException", "java/lang/IllegalStateException")]
def xdecl : List MethodName := [⟨"java/lang/RuntimeException", "<init>", "(Ljava/lang/String;)V"⟩, ⟨"java/lang/Exception", "<init>", "(Ljava/lang/String;)V"⟩, ⟨"java/lang/Throwable", "<init>", "(Ljava/lang/String;)V"⟩]
def xnest : List (String × Nat × MethodName × String) := []
def xnot : List (String × String) := [("java/lang/IllegalArgumentException", "java/lang/IndexOutOfBoundsException"), ("java/lang/IllegalStateException", "java/lang/IndexOutOfBoundsException"), ("java/lang/IllegalStateException", "java/lang/IllegalArgumentException")]
/-- what the old part of the heap and the tables say, for good -/
def xOld (w : xW) (s : State) (H : Heap) : Prop :=
  (va_En "PromiseMarket$Token" "LPromiseMarket$Token;" ["END"] [] (w.1 50) (xfr w) s H ∧ va_X (w.1 52 0) w.2.2.2.2.2.1 w.2.2.2.2.2.2 s H ∧ w.1 52 0 < w.2.2.2.1) ∧
  (True ∧ (∀ q ∈ xstr, vk_R q.1 q.2.1 q.2.2.1 (w.1 51 q.2.2.2) s) ∧ True ∧ True) ∧
  (vx_Zq Bundle.tN "UNASSIGNED_STACK" Bundle.steD (xfr w) s H ∧ vx_Zq Bundle.tN "SUPPRESSED_SENTINEL" Bundle.listD (xfr w) s H) ∧
  ((∀ q ∈ xcast, va_Nw (.castable q.1 q.2) s) ∧ (∀ q ∈ xdecl, va_Nw (.declares q) s) ∧ (∀ q ∈ xnest, va_Nw (.methodLinkNest q.1 q.2.1 q.2.2.1 q.2.2.2) s) ∧ ∀ q ∈ xnot, va_Nc q.1 q.2 s)
def xSta (w : xW) (s : State) (H : Heap) : Prop := va_K w.2.1 vwCl (xtys w) s ∧ w.2.2.2.1 ≤ H.size ∧ xOld w s H
theorem xSta.moved {w : xW} {s U : State} {H : Heap} (hW : s.WarmedH U.vm) (h : xSta w s H) : xSta w U H := by
  have hvm := hW.alike
  obtain ⟨h1, h2, ⟨a1, a2, a3⟩, ⟨b1, b2, b3, b4⟩, ⟨c1, c2⟩, d1, d2, d3, d4⟩ := h
  exact ⟨va_K.moved hvm h1, h2, ⟨va_En.moved hvm a1, va_X.moved hvm a2, a3⟩, ⟨b1, fun q hq => vk_R.warm hW (b2 q hq), b3, b4⟩, ⟨vx_Zq.moved hvm c1, vx_Zq.moved hvm c2⟩, fun q hq => va_Nw.warmC hW (d1 q hq), fun q hq => va_Nw.warmD hW (d2 q hq), fun q hq => va_Nw.warmM hW (d3 q hq), fun q hq => va_Nc.moved hvm (d4 q hq)⟩
theorem xSta.kept {w : xW} {s : State} {H H1 : Heap} (h : xSta w s H) (hz : H.size ≤ H1.size) (hq : ∀ a : Nat, a < H.size → ¬ xfr w a → H1[a]? = H[a]?) : xSta w s H1 := by
  obtain ⟨h1, h2, ⟨a1, a2, a3⟩, ⟨b1, b2, b3, b4⟩, ⟨c1, c2⟩, d⟩ := h
  exact ⟨h1, Nat.le_trans h2 hz, ⟨a1.kept hq, a2.kept (hq _ (Nat.lt_of_lt_of_le a3 h2) (Nat.not_le.mpr a3)), a3⟩, ⟨b1, b2, b3, b4⟩, ⟨c1.kept hq, c2.kept hq⟩, d⟩
/-- the tables' words that stay good from state to state -/
def xtb : List Cond := lw_tbl.filter goodWord
theorem xtb_in {i : Nat} {w : Cond} (h : tables_1[i]? = some w) (hg : goodWord w = true) : w ∈ xtb := List.mem_filter.mpr ⟨List.mem_append_right _ (List.mem_of_getElem? h), hg⟩
theorem xtb_good {ws : List Cond} (h : ∀ w ∈ ws, w ∈ xtb) : GoodIn xtb ws := fun w hw => ⟨h w hw, good_of_word (List.mem_filter.mp (h w hw)).2⟩
def xCx (w : xW) (mi : xM) (p : Program) (l : Launch) (R : Room) (s : State) (m : MethodId) (args : Array Value) (meth : Method) (c : Code) : Prop :=
  p.tables.exec = Jvm.exec ∧ c.code = mi.2.1 ∧ meth.sig.returnType = mi.2.2.2.1 ∧ c.maxLocals = mi.2.2.1 ∧ s.vm.findClass mi.1 = some m.cls ∧ (∀ w ∈ xtb, w.before args s = true) ∧ meth.locks = false ∧
  c.exceptionTable.toList = tableOf mi.2.2.2.2.1 ∧ (mi.2.2.2.2.2.1 ≤ R.frames ∧ mi.2.2.2.2.2.2 ≤ R.locals) ∧ l.flags = flags0 ∧ xSta w s s.heap
abbrev xT : Type := List Frame → Array Value → State → Nat → Nat → State → Prop
def X (w : xW) (mi : xM) (TG : xT) (k n : Nat) (pc : Nat) (L st : List xV) (S : xS) : Prop :=
  ∀ (p : Program) (l : Launch) (e : Env) (R : Room) (s : State) (m : MethodId) (args : Array Value) (below : List Frame) (meth : Method) (c : Code) (H : Heap) (locs : List Loc) (cells slots MC MS : Nat) (ls : Array Slot),
    xCx w mi p l R s m args meth c → (cells + k ≤ MC ∧ slots + n ≤ MS ∧ MC ≤ R.cells ∧ MS ≤ R.slots) → xRep w S H → va_S (xfr w) s.heap H locs → xlh w.1 ls mi.2.2.1 L → (∀ v ∈ L, xok v) → (∀ v ∈ st, xok v) →
    W p l e R s m args below meth c H locs cells slots (TG below args s MC MS) (F0 m pc ls (st.map (xc w.1)))
/-- an exception E is thrown here, by the instruction at pc -/
def XT (w : xW) (mi : xM) (TG : xT) (k n : Nat) (pc : Nat) (L st : List xV) (E : String) (S : xS) : Prop :=
  ∀ (p : Program) (l : Launch) (e : Env) (R : Room) (s : State) (m : MethodId) (args : Array Value) (below : List Frame) (meth : Method) (c : Code) (H : Heap) (locs : List Loc) (cells slots MC MS : Nat) (ls : Array Slot) (q : Addr) (ce : Cell),
    xCx w mi p l R s m args meth c → (cells + k ≤ MC ∧ slots + n ≤ MS ∧ MC ≤ R.cells ∧ MS ≤ R.slots) → xRep w S H → va_S (xfr w) s.heap H locs → xlh w.1 ls mi.2.2.1 L → (∀ v ∈ L, xok v) → (∀ v ∈ st, xok v) →
    H[q]? = some ce → ce.vm = .none → s.vm.findClass E = some ce.cls →
    vx_W p l e R s m args below meth c H locs cells slots (TG below args s MC MS) (F0 m pc ls (st.map (xc w.1))) q
/-- an instruction: where it stands, how long it is, what comes next -/
def xd (cc : ByteArray) (pc : Nat) (i : Instr) (n pc' : Nat) : Prop := decode cc pc = .ok (i, n) ∧ pc + n = pc'
theorem xok_cons {v : xV} {st : List xV} (h : ∀ u ∈ v :: st, xok u) : xok v ∧ ∀ u ∈ st, xok u := ⟨h v List.mem_cons_self, fun u hu => h u (List.mem_cons_of_mem _ hu)⟩
theorem xok_of {v : xV} {st : List xV} (h : xok v) (h2 : ∀ u ∈ st, xok u) : ∀ u ∈ v :: st, xok u := fun u hu => (List.mem_cons.mp hu).elim (fun e => e ▸ h) (h2 u)
theorem xok_at {L : List xV} {i : Nat} {v : xV} (h : ∀ u ∈ L, xok u) (hi : L[i]? = some v) : xok v := h v (List.mem_of_getElem? hi)
theorem xok_set {L : List xV} {i : Nat} {v : xV} (h : ∀ u ∈ L, xok u) (hv : xok v) : ∀ u ∈ L.set i v, xok u := fun u hu => (List.mem_or_eq_of_mem_set hu).elim (h u) (fun e => e ▸ hv)
section XR
variable {w : xW} {mi : xM} {TG : xT} {k n pc pc' : Nat} {L st : List xV} {S : xS}
/-! constants -/
theorem xa_iconst {a : Int} (h : xd mi.2.1 pc (.iconst a) 1 pc') (kk : X w mi TG k n pc' L (xi a :: st) S) : X w mi TG k n pc L st S := by
  obtain ⟨hd, rfl⟩ := h
  intro p l e R s m args below meth c H locs cells slots MC MS ls hC hB hR hS hl hL hst
  exact lv_iconst hC.1 hC.2.1 hd rfl (kk p l e R s m args below meth c H locs cells slots MC MS ls hC hB hR hS hl hL (xok_of (v := xi a) trivial hst))
theorem xa_bipush {a : Int} (h : xd mi.2.1 pc (.bipush a) 2 pc') (hv : (Int8.ofInt a).toInt32 = Int32.ofInt a) (kk : X w mi TG k n pc' L (xi a :: st) S) : X w mi TG k n pc L st S := by
  obtain ⟨hd, rfl⟩ := h
  intro p l e R s m args below meth c H locs cells slots MC MS ls hC hB hR hS hl hL hst
  exact lv_bipush hC.1 hC.2.1 hd hv (kk p l e R s m args below meth c H locs cells slots MC MS ls hC hB hR hS hl hL (xok_of (v := xi a) trivial hst))
theorem xa_sipush {a : Int} (h : xd mi.2.1 pc (.sipush a) 3 pc') (hv : (Int16.ofInt a).toInt32 = Int32.ofInt a) (kk : X w mi TG k n pc' L (xi a :: st) S) : X w mi TG k n pc L st S := by
  obtain ⟨hd, rfl⟩ := h
  intro p l e R s m args below meth c H locs cells slots MC MS ls hC hB hR hS hl hL hst
  exact lv_sipush hC.1 hC.2.1 hd hv (kk p l e R s m args below meth c H locs cells slots MC MS ls hC hB hR hS hl hL (xok_of (v := xi a) trivial hst))
theorem xa_lconst0 (h : xd mi.2.1 pc (.lconst 0) 1 pc') (kk : X w mi TG k n pc' L (xl 0 :: st) S) : X w mi TG k n pc L st S := by
  obtain ⟨hd, rfl⟩ := h
  intro p l e R s m args below meth c H locs cells slots MC MS ls hC hB hR hS hl hL hst
  exact lv_lconst (v := Int64.ofInt 0) hC.1 hC.2.1 hd (by decide) (kk p l e R s m args below meth c H locs cells slots MC MS ls hC hB hR hS hl hL (xok_of (v := xl 0) trivial hst))
theorem xa_lconst1 (h : xd mi.2.1 pc (.lconst 1) 1 pc') (kk : X w mi TG k n pc' L (xl 1 :: st) S) : X w mi TG k n pc L st S := by
  obtain ⟨hd, rfl⟩ := h
  intro p l e R s m args below meth c H locs cells slots MC MS ls hC hB hR hS hl hL hst
  exact lv_lconst (v := Int64.ofInt 1) hC.1 hC.2.1 hd (by decide) (kk p l e R s m args below meth c H locs cells slots MC MS ls hC hB hR hS hl hL (xok_of (v := xl 1) trivial hst))
theorem xa_ldc {a : Int} {index : Nat} {v : Int32} (h : xd mi.2.1 pc (.ldc index) 2 pc') (hw : Cond.constant mi.1 index v ∈ xtb) (hv : v = Int32.ofInt a) (kk : X w mi TG k n pc' L (xi a :: st) S) : X w mi TG k n pc L st S := by
  obtain ⟨hd, rfl⟩ := h
  subst hv
  intro p l e R s m args below meth c H locs cells slots MC MS ls hC hB hR hS hl hL hst
  exact lv_ldc hC.1 hC.2.1 hC.2.2.2.2.1 (hC.2.2.2.2.2.1 _ hw) hd (kk p l e R s m args below meth c H locs cells slots MC MS ls hC hB hR hS hl hL (xok_of (v := xi a) trivial hst))
theorem xa_ldcw {a : Int} {index : Nat} {v : Int32} (h : xd mi.2.1 pc (.ldc_w index) 3 pc') (hw : Cond.constant mi.1 index v ∈ xtb) (hv : v = Int32.ofInt a) (kk : X w mi TG k n pc' L (xi a :: st) S) : X w mi TG k n pc L st S := by
  obtain ⟨hd, rfl⟩ := h
  subst hv
  intro p l e R s m args below meth c H locs cells slots MC MS ls hC hB hR hS hl hL hst
  exact lv_ldcw hC.1 hC.2.1 hC.2.2.2.2.1 (hC.2.2.2.2.2.1 _ hw) hd (kk p l e R s m args below meth c H locs cells slots MC MS ls hC hB hR hS hl hL (xok_of (v := xi a) trivial hst))
theorem xa_ldc2 {a : Int} {index : Nat} {v : Int64} (h : xd mi.2.1 pc (.ldc2_w index) 3 pc') (hw : Cond.constantLong mi.1 index v ∈ xtb) (hv : v = Int64.ofInt a) (kk : X w mi TG k n pc' L (xl a :: st) S) : X w mi TG k n pc L st S := by
  obtain ⟨hd, rfl⟩ := h
  subst hv
  intro p l e R s m args below meth c H locs cells slots MC MS ls hC hB hR hS hl hL hst
  exact lv_ldc2 hC.1 hC.2.1 hC.2.2.2.2.1 (hC.2.2.2.2.2.1 _ hw) hd (kk p l e R s m args below meth c H locs cells slots MC MS ls hC hB hR hS hl hL (xok_of (v := xl a) trivial hst))
theorem xa_null (h : xd mi.2.1 pc .aconst_null 1 pc') (kk : X w mi TG k n pc' L (xv .null :: st) S) : X w mi TG k n pc L st S := by
  obtain ⟨hd, rfl⟩ := h
  intro p l e R s m args below meth c H locs cells slots MC MS ls hC hB hR hS hl hL hst
  exact lv_null hC.1 hC.2.1 hd (kk p l e R s m args below meth c H locs cells slots MC MS ls hC hB hR hS hl hL (xok_of (v := xv .null) trivial hst))
/-! loads -/
theorem xa_iloadN {q : Fin 4} {i : Nat} {a : Int} (h : xd mi.2.1 pc (.iload_n q) 1 pc') (hq : (q : Nat) = i) (hi : L[i]? = some (xi a)) (kk : X w mi TG k n pc' L (xi a :: st) S) : X w mi TG k n pc L st S := by
  obtain ⟨hd, rfl⟩ := h
  intro p l e R s m args below meth c H locs cells slots MC MS ls hC hB hR hS hl hL hst
  exact lv_iload_n hC.1 hC.2.1 hd hq (hl.get hi rfl) (kk p l e R s m args below meth c H locs cells slots MC MS ls hC hB hR hS hl hL (xok_of (v := xi a) trivial hst))
theorem xa_iload {i : Nat} {a : Int} (h : xd mi.2.1 pc (.iload i) 2 pc') (hi : L[i]? = some (xi a)) (kk : X w mi TG k n pc' L (xi a :: st) S) : X w mi TG k n pc L st S := by
  obtain ⟨hd, rfl⟩ := h
  intro p l e R s m args below meth c H locs cells slots MC MS ls hC hB hR hS hl hL hst
  exact lv_iload hC.1 hC.2.1 hd (hl.get hi rfl) (kk p l e R s m args below meth c H locs cells slots MC MS ls hC hB hR hS hl hL (xok_of (v := xi a) trivial hst))
theorem xa_lloadN {q : Fin 4} {i : Nat} {a : Int} (h : xd mi.2.1 pc (.lload_n q) 1 pc') (hq : (q : Nat) = i) (hi : L[i]? = some (xl a)) (kk : X w mi TG k n pc' L (xl a :: st) S) : X w mi TG k n pc L st S := by
  obtain ⟨hd, rfl⟩ := h
  intro p l e R s m args below meth c H locs cells slots MC MS ls hC hB hR hS hl hL hst
  exact lv_lload_n hC.1 hC.2.1 hd hq (hl.get hi rfl) (kk p l e R s m args below meth c H locs cells slots MC MS ls hC hB hR hS hl hL (xok_of (v := xl a) trivial hst))
theorem xa_lload {i : Nat} {a : Int} (h : xd mi.2.1 pc (.lload i) 2 pc') (hi : L[i]? = some (xl a)) (kk : X w mi TG k n pc' L (xl a :: st) S) : X w mi TG k n pc L st S := by
  obtain ⟨hd, rfl⟩ := h
  intro p l e R s m args below meth c H locs cells slots MC MS ls hC hB hR hS hl hL hst
  exact lv_lload hC.1 hC.2.1 hd (hl.get hi rfl) (kk p l e R s m args below meth c H locs cells slots MC MS ls hC hB hR hS hl hL (xok_of (v := xl a) trivial hst))
theorem xa_dloadN {q : Fin 4} {i : Nat} {a : UInt64} (h : xd mi.2.1 pc (.dload_n q) 1 pc') (hq : (q : Nat) = i) (hi : L[i]? = some (xv (.double a))) (kk : X w mi TG k n pc' L (xv (.double a) :: st) S) : X w mi TG k n pc L st S := by
  obtain ⟨hd, rfl⟩ := h
  intro p l e R s m args below meth c H locs cells slots MC MS ls hC hB hR hS hl hL hst
  exact lv_dload_n hC.1 hC.2.1 hd hq (hl.get hi rfl) (kk p l e R s m args below meth c H locs cells slots MC MS ls hC hB hR hS hl hL (xok_of (v := xv (.double a)) trivial hst))
theorem xa_dload {i : Nat} {a : UInt64} (h : xd mi.2.1 pc (.dload i) 2 pc') (hi : L[i]? = some (xv (.double a))) (kk : X w mi TG k n pc' L (xv (.double a) :: st) S) : X w mi TG k n pc L st S := by
  obtain ⟨hd, rfl⟩ := h
  intro p l e R s m args below meth c H locs cells slots MC MS ls hC hB hR hS hl hL hst
  exact lv_dload hC.1 hC.2.1 hd (hl.get hi rfl) (kk p l e R s m args below meth c H locs cells slots MC MS ls hC hB hR hS hl hL (xok_of (v := xv (.double a)) trivial hst))
theorem xa_aloadN {q : Fin 4} {i x y : Nat} (h : xd mi.2.1 pc (.aload_n q) 1 pc') (hq : (q : Nat) = i) (hi : L[i]? = some (xp x y)) (kk : X w mi TG k n pc' L (xp x y :: st) S) : X w mi TG k n pc L st S := by
  obtain ⟨hd, rfl⟩ := h
  intro p l e R s m args below meth c H locs cells slots MC MS ls hC hB hR hS hl hL hst
  exact lv_aload_n hC.1 hC.2.1 hd hq (hl.get hi rfl) (kk p l e R s m args below meth c H locs cells slots MC MS ls hC hB hR hS hl hL (xok_of (xok_at hL hi) hst))
theorem xa_aload {i x y : Nat} (h : xd mi.2.1 pc (.aload i) 2 pc') (hi : L[i]? = some (xp x y)) (kk : X w mi TG k n pc' L (xp x y :: st) S) : X w mi TG k n pc L st S := by
  obtain ⟨hd, rfl⟩ := h
  intro p l e R s m args below meth c H locs cells slots MC MS ls hC hB hR hS hl hL hst
  exact lv_aload hC.1 hC.2.1 hd (hl.get hi rfl) (kk p l e R s m args below meth c H locs cells slots MC MS ls hC hB hR hS hl hL (xok_of (xok_at hL hi) hst))
theorem xa_aloadNN {q : Fin 4} {i : Nat} (h : xd mi.2.1 pc (.aload_n q) 1 pc') (hq : (q : Nat) = i) (hi : L[i]? = some (xv .null)) (kk : X w mi TG k n pc' L (xv .null :: st) S) : X w mi TG k n pc L st S := by
  obtain ⟨hd, rfl⟩ := h
  intro p l e R s m args below meth c H locs cells slots MC MS ls hC hB hR hS hl hL hst
  exact lv_aload_nN hC.1 hC.2.1 hd hq (hl.get hi rfl) (kk p l e R s m args below meth c H locs cells slots MC MS ls hC hB hR hS hl hL (xok_of (v := xv .null) trivial hst))
theorem xa_aloadX {i : Nat} (h : xd mi.2.1 pc (.aload i) 2 pc') (hi : L[i]? = some (xv .null)) (kk : X w mi TG k n pc' L (xv .null :: st) S) : X w mi TG k n pc L st S := by
  obtain ⟨hd, rfl⟩ := h
  intro p l e R s m args below meth c H locs cells slots MC MS ls hC hB hR hS hl hL hst
  exact lv_aloadN hC.1 hC.2.1 hd (hl.get hi rfl) (kk p l e R s m args below meth c H locs cells slots MC MS ls hC hB hR hS hl hL (xok_of (v := xv .null) trivial hst))
/-! stores -/
theorem xa_istoreN {q : Fin 4} {i : Nat} {a : Int} (h : xd mi.2.1 pc (.istore_n q) 1 pc') (hq : (q : Nat) = i) (hi : i < L.length) (hp : xpre L i) (kk : X w mi TG k n pc' (L.set i (xi a)) st S) : X w mi TG k n pc L (xi a :: st) S := by
  obtain ⟨hd, rfl⟩ := h
  intro p l e R s m args below meth c H locs cells slots MC MS ls hC hB hR hS hl hL hst
  exact lv_istore_n hC.1 hC.2.1 hd hq hl.2 (by rw [← hl.1]; exact hi) rfl (fun ls' hl' => kk p l e R s m args below meth c H locs cells slots MC MS ls' hC hB hR hS (xlh.set1 (v := xi a) hl.1 hp hl') (xok_set hL (v := xi a) trivial) (xok_cons hst).2)
theorem xa_istore {i : Nat} {a : Int} (h : xd mi.2.1 pc (.istore i) 2 pc') (hi : i < L.length) (hp : xpre L i) (kk : X w mi TG k n pc' (L.set i (xi a)) st S) : X w mi TG k n pc L (xi a :: st) S := by
  obtain ⟨hd, rfl⟩ := h
  intro p l e R s m args below meth c H locs cells slots MC MS ls hC hB hR hS hl hL hst
  exact lv_istore hC.1 hC.2.1 hd hl.2 (by rw [← hl.1]; exact hi) rfl (fun ls' hl' => kk p l e R s m args below meth c H locs cells slots MC MS ls' hC hB hR hS (xlh.set1 (v := xi a) hl.1 hp hl') (xok_set hL (v := xi a) trivial) (xok_cons hst).2)
theorem xa_lstoreN {q : Fin 4} {i : Nat} {a : Int} (h : xd mi.2.1 pc (.lstore_n q) 1 pc') (hq : (q : Nat) = i) (hi : i + 1 < L.length) (hp : xpre L i) (kk : X w mi TG k n pc' ((L.set i (xl a)).set (i + 1) xj) st S) : X w mi TG k n pc L (xl a :: st) S := by
  obtain ⟨hd, rfl⟩ := h
  intro p l e R s m args below meth c H locs cells slots MC MS ls hC hB hR hS hl hL hst
  exact lv_lstore_n hC.1 hC.2.1 hd hq hl.2 (by rw [← hl.1]; exact hi) rfl (fun ls' hl' => kk p l e R s m args below meth c H locs cells slots MC MS ls' hC hB hR hS (xlh.set2 (v := xl a) hl.1 hp hl') (xok_set (xok_set hL (v := xl a) trivial) (v := xj) trivial) (xok_cons hst).2)
theorem xa_lstore {i : Nat} {a : Int} (h : xd mi.2.1 pc (.lstore i) 2 pc') (hi : i + 1 < L.length) (hp : xpre L i) (kk : X w mi TG k n pc' ((L.set i (xl a)).set (i + 1) xj) st S) : X w mi TG k n pc L (xl a :: st) S := by
  obtain ⟨hd, rfl⟩ := h
  intro p l e R s m args below meth c H locs cells slots MC MS ls hC hB hR hS hl hL hst
  exact lv_lstore hC.1 hC.2.1 hd hl.2 (by rw [← hl.1]; exact hi) rfl (fun ls' hl' => kk p l e R s m args below meth c H locs cells slots MC MS ls' hC hB hR hS (xlh.set2 (v := xl a) hl.1 hp hl') (xok_set (xok_set hL (v := xl a) trivial) (v := xj) trivial) (xok_cons hst).2)
theorem xa_dstoreN {q : Fin 4} {i : Nat} {a : UInt64} (h : xd mi.2.1 pc (.dstore_n q) 1 pc') (hq : (q : Nat) = i) (hi : i + 1 < L.length) (hp : xpre L i) (kk : X w mi TG k n pc' ((L.set i (xv (.double a))).set (i + 1) xj) st S) : X w mi TG k n pc L (xv (.double a) :: st) S := by
  obtain ⟨hd, rfl⟩ := h
  intro p l e R s m args below meth c H locs cells slots MC MS ls hC hB hR hS hl hL hst
  exact lv_dstore_n hC.1 hC.2.1 hd hq hl.2 (by rw [← hl.1]; exact hi) rfl (fun ls' hl' => kk p l e R s m args below meth c H locs cells slots MC MS ls' hC hB hR hS (xlh.set2 (v := xv (.double a)) hl.1 hp hl') (xok_set (xok_set hL (v := xv (.double a)) trivial) (v := xj) trivial) (xok_cons hst).2)
theorem xa_dstore {i : Nat} {a : UInt64} (h : xd mi.2.1 pc (.dstore i) 2 pc') (hi : i + 1 < L.length) (hp : xpre L i) (kk : X w mi TG k n pc' ((L.set i (xv (.double a))).set (i + 1) xj) st S) : X w mi TG k n pc L (xv (.double a) :: st) S := by
  obtain ⟨hd, rfl⟩ := h
  intro p l e R s m args below meth c H locs cells slots MC MS ls hC hB hR hS hl hL hst
  exact lv_dstore hC.1 hC.2.1 hd hl.2 (by rw [← hl.1]; exact hi) rfl (fun ls' hl' => kk p l e R s m args below meth c H locs cells slots MC MS ls' hC hB hR hS (xlh.set2 (v := xv (.double a)) hl.1 hp hl') (xok_set (xok_set hL (v := xv (.double a)) trivial) (v := xj) trivial) (xok_cons hst).2)
theorem xa_astoreN {q : Fin 4} {i x y : Nat} (h : xd mi.2.1 pc (.astore_n q) 1 pc') (hq : (q : Nat) = i) (hi : i < L.length) (hp : xpre L i) (kk : X w mi TG k n pc' (L.set i (xp x y)) st S) : X w mi TG k n pc L (xp x y :: st) S := by
  obtain ⟨hd, rfl⟩ := h
  intro p l e R s m args below meth c H locs cells slots MC MS ls hC hB hR hS hl hL hst
  exact lv_astore_n hC.1 hC.2.1 hd hq hl.2 (by rw [← hl.1]; exact hi) rfl (fun ls' hl' => kk p l e R s m args below meth c H locs cells slots MC MS ls' hC hB hR hS (xlh.set1 (v := xp x y) hl.1 hp hl') (xok_set hL (xok_cons hst).1) (xok_cons hst).2)
theorem xa_astore {i x y : Nat} (h : xd mi.2.1 pc (.astore i) 2 pc') (hi : i < L.length) (hp : xpre L i) (kk : X w mi TG k n pc' (L.set i (xp x y)) st S) : X w mi TG k n pc L (xp x y :: st) S := by
  obtain ⟨hd, rfl⟩ := h
  intro p l e R s m args below meth c H locs cells slots MC MS ls hC hB hR hS hl hL hst
  exact lv_astore hC.1 hC.2.1 hd hl.2 (by rw [← hl.1]; exact hi) rfl (fun ls' hl' => kk p l e R s m args below meth c H locs cells slots MC MS ls' hC hB hR hS (xlh.set1 (v := xp x y) hl.1 hp hl') (xok_set hL (xok_cons hst).1) (xok_cons hst).2)
theorem xa_astoreNN {q : Fin 4} {i : Nat} (h : xd mi.2.1 pc (.astore_n q) 1 pc') (hq : (q : Nat) = i) (hi : i < L.length) (hp : xpre L i) (kk : X w mi TG k n pc' (L.set i (xv .null)) st S) : X w mi TG k n pc L (xv .null :: st) S := by
  obtain ⟨hd, rfl⟩ := h
  intro p l e R s m args below meth c H locs cells slots MC MS ls hC hB hR hS hl hL hst
  exact lv_astore_nN hC.1 hC.2.1 hd hq hl.2 (by rw [← hl.1]; exact hi) rfl (fun ls' hl' => kk p l e R s m args below meth c H locs cells slots MC MS ls' hC hB hR hS (xlh.set1 (v := xv .null) hl.1 hp hl') (xok_set hL (xok_cons hst).1) (xok_cons hst).2)
theorem xa_astoreX {i : Nat} (h : xd mi.2.1 pc (.astore i) 2 pc') (hi : i < L.length) (hp : xpre L i) (kk : X w mi TG k n pc' (L.set i (xv .null)) st S) : X w mi TG k n pc L (xv .null :: st) S := by
  obtain ⟨hd, rfl⟩ := h
  intro p l e R s m args below meth c H locs cells slots MC MS ls hC hB hR hS hl hL hst
  exact lv_astoreN hC.1 hC.2.1 hd hl.2 (by rw [← hl.1]; exact hi) rfl (fun ls' hl' => kk p l e R s m args below meth c H locs cells slots MC MS ls' hC hB hR hS (xlh.set1 (v := xv .null) hl.1 hp hl') (xok_set hL (xok_cons hst).1) (xok_cons hst).2)
/-- the caught exception's own reference: it is never used -/
theorem xa_astoreE {i q : Nat} (h : xd mi.2.1 pc (.astore i) 2 pc') (hi : i < L.length) (hp : xpre L i) (kk : X w mi TG k n pc' (L.set i (xv (.ref q))) st S) : X w mi TG k n pc L (xv (.ref q) :: st) S := by
  obtain ⟨hd, rfl⟩ := h
  intro p l e R s m args below meth c H locs cells slots MC MS ls hC hB hR hS hl hL hst
  exact lv_astore hC.1 hC.2.1 hd hl.2 (by rw [← hl.1]; exact hi) rfl (fun ls' hl' => kk p l e R s m args below meth c H locs cells slots MC MS ls' hC hB hR hS (xlh.set1 (v := xv (.ref q)) hl.1 hp hl') (xok_set hL (xok_cons hst).1) (xok_cons hst).2)
theorem xa_astoreNE {q : Fin 4} {i z : Nat} (h : xd mi.2.1 pc (.astore_n q) 1 pc') (hq : (q : Nat) = i) (hi : i < L.length) (hp : xpre L i) (kk : X w mi TG k n pc' (L.set i (xv (.ref z))) st S) : X w mi TG k n pc L (xv (.ref z) :: st) S := by
  obtain ⟨hd, rfl⟩ := h
  intro p l e R s m args below meth c H locs cells slots MC MS ls hC hB hR hS hl hL hst
  exact lv_astore_n hC.1 hC.2.1 hd hq hl.2 (by rw [← hl.1]; exact hi) rfl (fun ls' hl' => kk p l e R s m args below meth c H locs cells slots MC MS ls' hC hB hR hS (xlh.set1 (v := xv (.ref z)) hl.1 hp hl') (xok_set hL (xok_cons hst).1) (xok_cons hst).2)
theorem xa_iinc {i : Nat} {a d : Int} (h : xd mi.2.1 pc (.iinc i d) 3 pc') (hi : L[i]? = some (xi a)) (hp : xpre L i) (kk : X w mi TG k n pc' (L.set i (xi (a + d))) st S) : X w mi TG k n pc L st S := by
  obtain ⟨hd, rfl⟩ := h
  intro p l e R s m args below meth c H locs cells slots MC MS ls hC hB hR hS hl hL hst
  obtain ⟨q, hq⟩ := List.getElem?_of_mem (xpl_mem (ad := w.1) (L := L) (n := 0) (q := (i, xc w.1 (xi a))) |>.mpr ⟨i, xi a, by simp, hi, rfl, rfl⟩)
  have hlt : i < mi.2.2.1 := by rw [← hl.1]; exact (List.getElem?_eq_some_iff.mp hi).1
  exact lv_iinc (v := Int32.ofInt (a + d)) hC.1 hC.2.1 hd hl.2 (k := q) hq (Int32.ofInt_add a d).symm hlt rfl (fun ls' hl' => kk p l e R s m args below meth c H locs cells slots MC MS ls' hC hB hR hS (xlh.set1 (v := xi (a + d)) hl.1 hp hl') (xok_set hL (v := xi (a + d)) trivial) hst)
/-- what a place of the locals holds may be forgotten -/
theorem xa_junk (i : Nat) (kk : X w mi TG k n pc (L.set i xj) st S) : X w mi TG k n pc L st S := by
  intro p l e R s m args below meth c H locs cells slots MC MS ls hC hB hR hS hl hL hst
  refine kk p l e R s m args below meth c H locs cells slots MC MS ls hC hB hR hS ⟨by rw [List.length_set]; exact hl.1, hl.2.1, hl.2.2.1, fun q hq => ?_⟩ (xok_set hL (v := xj) trivial) hst
  obtain ⟨j, u, h1, h2, h3, h4⟩ := xpl_mem.mp hq
  by_cases hj : j = i
  · subst hj
    have hlt : j < L.length := by
      have := (List.getElem?_eq_some_iff.mp h2).1
      rwa [List.length_set] at this
    rw [List.getElem?_set_self hlt] at h2
    cases h2
    cases h3
  · rw [List.getElem?_set_ne (Ne.symm hj)] at h2
    exact hl.2.2.2 q (xpl_mem.mpr ⟨j, u, h1, h2, h3, h4⟩)
/-! arithmetic -/
theorem xa_iadd {a b : Int} (h : xd mi.2.1 pc .iadd 1 pc') (kk : X w mi TG k n pc' L (xi (a + b) :: st) S) : X w mi TG k n pc L (xi b :: xi a :: st) S := by
  obtain ⟨hd, rfl⟩ := h
  intro p l e R s m args below meth c H locs cells slots MC MS ls hC hB hR hS hl hL hst
  have h9 := kk p l e R s m args below meth c H locs cells slots MC MS ls hC hB hR hS hl hL (xok_of (v := xi (a + b)) trivial (xok_cons (xok_cons hst).2).2)
  rw [List.map_cons, show xc w.1 (xi (a + b)) = Value.int (Int32.ofInt a + Int32.ofInt b) from congrArg Value.int (Int32.ofInt_add a b)] at h9
  exact lv_iadd hC.1 hC.2.1 hd h9
theorem xa_isub {a b : Int} (h : xd mi.2.1 pc .isub 1 pc') (kk : X w mi TG k n pc' L (xi (a - b) :: st) S) : X w mi TG k n pc L (xi b :: xi a :: st) S := by
  obtain ⟨hd, rfl⟩ := h
  intro p l e R s m args below meth c H locs cells slots MC MS ls hC hB hR hS hl hL hst
  have h9 := kk p l e R s m args below meth c H locs cells slots MC MS ls hC hB hR hS hl hL (xok_of (v := xi (a - b)) trivial (xok_cons (xok_cons hst).2).2)
  rw [List.map_cons, show xc w.1 (xi (a - b)) = Value.int (Int32.ofInt a - Int32.ofInt b) from congrArg Value.int (Int32.ofInt_sub a b)] at h9
  exact lv_isub hC.1 hC.2.1 hd h9
theorem xa_imul {a b : Int} (h : xd mi.2.1 pc .imul 1 pc') (kk : X w mi TG k n pc' L (xi (a * b) :: st) S) : X w mi TG k n pc L (xi b :: xi a :: st) S := by
  obtain ⟨hd, rfl⟩ := h
  intro p l e R s m args below meth c H locs cells slots MC MS ls hC hB hR hS hl hL hst
  have h9 := kk p l e R s m args below meth c H locs cells slots MC MS ls hC hB hR hS hl hL (xok_of (v := xi (a * b)) trivial (xok_cons (xok_cons hst).2).2)
  rw [List.map_cons, show xc w.1 (xi (a * b)) = Value.int (Int32.ofInt a * Int32.ofInt b) from congrArg Value.int (Int32.ofInt_mul a b)] at h9
  exact lv_imul hC.1 hC.2.1 hd h9
theorem xa_ineg {a : Int} (h : xd mi.2.1 pc .ineg 1 pc') (kk : X w mi TG k n pc' L (xi (-a) :: st) S) : X w mi TG k n pc L (xi a :: st) S := by
  obtain ⟨hd, rfl⟩ := h
  intro p l e R s m args below meth c H locs cells slots MC MS ls hC hB hR hS hl hL hst
  have h9 := kk p l e R s m args below meth c H locs cells slots MC MS ls hC hB hR hS hl hL (xok_of (v := xi (-a)) trivial (xok_cons hst).2)
  rw [List.map_cons, show xc w.1 (xi (-a)) = Value.int (-Int32.ofInt a) from congrArg Value.int (Int32.ofInt_neg a)] at h9
  exact lv_ineg hC.1 hC.2.1 hd h9
theorem xa_ladd {a b : Int} (h : xd mi.2.1 pc .ladd 1 pc') (kk : X w mi TG k n pc' L (xl (a + b) :: st) S) : X w mi TG k n pc L (xl b :: xl a :: st) S := by
  obtain ⟨hd, rfl⟩ := h
  intro p l e R s m args below meth c H locs cells slots MC MS ls hC hB hR hS hl hL hst
  have h9 := kk p l e R s m args below meth c H locs cells slots MC MS ls hC hB hR hS hl hL (xok_of (v := xl (a + b)) trivial (xok_cons (xok_cons hst).2).2)
  rw [List.map_cons, show xc w.1 (xl (a + b)) = Value.long (Int64.ofInt a + Int64.ofInt b) from congrArg Value.long (Int64.ofInt_add a b)] at h9
  exact lv_ladd hC.1 hC.2.1 hd h9
theorem xa_lsub {a b : Int} (h : xd mi.2.1 pc .lsub 1 pc') (kk : X w mi TG k n pc' L (xl (a - b) :: st) S) : X w mi TG k n pc L (xl b :: xl a :: st) S := by
  obtain ⟨hd, rfl⟩ := h
  intro p l e R s m args below meth c H locs cells slots MC MS ls hC hB hR hS hl hL hst
  have h9 := kk p l e R s m args below meth c H locs cells slots MC MS ls hC hB hR hS hl hL (xok_of (v := xl (a - b)) trivial (xok_cons (xok_cons hst).2).2)
  rw [List.map_cons, show xc w.1 (xl (a - b)) = Value.long (Int64.ofInt a - Int64.ofInt b) from congrArg Value.long (Int64.ofInt_sub a b)] at h9
  exact lv_lsub hC.1 hC.2.1 hd h9
theorem xa_lmul {a b : Int} (h : xd mi.2.1 pc .lmul 1 pc') (kk : X w mi TG k n pc' L (xl (a * b) :: st) S) : X w mi TG k n pc L (xl b :: xl a :: st) S := by
  obtain ⟨hd, rfl⟩ := h
  intro p l e R s m args below meth c H locs cells slots MC MS ls hC hB hR hS hl hL hst
  have h9 := kk p l e R s m args below meth c H locs cells slots MC MS ls hC hB hR hS hl hL (xok_of (v := xl (a * b)) trivial (xok_cons (xok_cons hst).2).2)
  rw [List.map_cons, show xc w.1 (xl (a * b)) = Value.long (Int64.ofInt a * Int64.ofInt b) from congrArg Value.long (Int64.ofInt_mul a b)] at h9
  exact lv_lmul hC.1 hC.2.1 hd h9
theorem xn_i2l {a : Int} (ha : xr a) : (Int32.ofInt a).toInt64 = Int64.ofInt a := Int32.toInt64_ofInt (by show (-2147483648 : Int) ≤ a; exact ha.1) (by show a ≤ (2147483647 : Int); omega)
theorem xa_i2l {a : Int} (h : xd mi.2.1 pc .i2l 1 pc') (ha : xr a) (kk : X w mi TG k n pc' L (xl a :: st) S) : X w mi TG k n pc L (xi a :: st) S := by
  obtain ⟨hd, rfl⟩ := h
  intro p l e R s m args below meth c H locs cells slots MC MS ls hC hB hR hS hl hL hst
  exact lv_i2l hC.1 hC.2.1 hd (xn_i2l ha) (kk p l e R s m args below meth c H locs cells slots MC MS ls hC hB hR hS hl hL (xok_of (v := xl a) trivial (xok_cons hst).2))
theorem xa_l2i {a : Int} (h : xd mi.2.1 pc .l2i 1 pc') (kk : X w mi TG k n pc' L (xi a :: st) S) : X w mi TG k n pc L (xl a :: st) S := by
  obtain ⟨hd, rfl⟩ := h
  intro p l e R s m args below meth c H locs cells slots MC MS ls hC hB hR hS hl hL hst
  exact lv_l2i hC.1 hC.2.1 hd Int64.toInt32_ofInt (kk p l e R s m args below meth c H locs cells slots MC MS ls hC hB hR hS hl hL (xok_of (v := xi a) trivial (xok_cons hst).2))
theorem xn_ti {a : Int} (ha : xr a) : (Int32.ofInt a).toInt = a := Int32.toInt_ofInt_of_le (by omega) (by omega)
theorem xn_tl {a : Int} (ha : x64 a) : (Int64.ofInt a).toInt = a := Int64.toInt_ofInt_of_le (by omega) (by omega)
theorem xn_ne0 {b : Int} (hb : xr b) (h0 : b ≠ 0) : ¬ Int32.ofInt b = 0 := fun q => h0 (by rw [← xn_ti hb, q]; rfl)
theorem xn_ne0l {b : Int} (hb : x64 b) (h0 : b ≠ 0) : ¬ Int64.ofInt b = 0 := fun q => h0 (by rw [← xn_tl hb, q]; rfl)
theorem xa_idiv {a b : Int} (h : xd mi.2.1 pc .idiv 1 pc') (ha : xr a) (hb : xr b) (h0 : b ≠ 0) (kk : X w mi TG k n pc' L (xi (a.tdiv b) :: st) S) : X w mi TG k n pc L (xi b :: xi a :: st) S := by
  obtain ⟨hd, rfl⟩ := h
  intro p l e R s m args below meth c H locs cells slots MC MS ls hC hB hR hS hl hL hst
  have h9 := kk p l e R s m args below meth c H locs cells slots MC MS ls hC hB hR hS hl hL (xok_of (v := xi (a.tdiv b)) trivial (xok_cons (xok_cons hst).2).2)
  have e9 : Int32.ofInt (a.tdiv b) = Int32.ofInt a / Int32.ofInt b := Int32.ofInt_tdiv (by show (-2147483648 : Int) ≤ a; omega) (by show a ≤ (2147483647 : Int); omega) (by show (-2147483648 : Int) ≤ b; omega) (by show b ≤ (2147483647 : Int); omega)
  rw [List.map_cons, show xc w.1 (xi (a.tdiv b)) = Value.int (Int32.ofInt a / Int32.ofInt b) from congrArg Value.int e9] at h9
  exact lv_idiv hC.1 hC.2.1 hd (xn_ne0 hb h0) h9
end XR
