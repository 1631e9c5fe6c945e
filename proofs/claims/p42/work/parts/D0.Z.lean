/-! the world in the making -/
/-! THE WORLD IN THE MAKING: which objects there are (D), what stands in them (E), where the heap ends (z) -/
abbrev zD : Type := List (Nat × Nat)
abbrev zE : Type := Nat → Nat → va_E
def zup (E : zE) (k j : Nat) (e : va_E) : zE := fun k' j' => if k' = k ∧ j' = j then e else E k' j'
def zwl (w : xW) (D : zD) (E : zE) : va_W := D.map fun q => (w.1 q.1 q.2, E q.1 q.2)
def zRep (w : xW) (D : zD) (E : zE) (z : Nat) (H : Heap) : Prop := va_P w.2.1 vwCl (zwl w D E) H ∧ va_D (xfr w) (zwl w D E) ∧ D.Nodup ∧ H.size = z
theorem zwl_in {w : xW} {D : zD} {E : zE} {x y : Nat} (h : (x, y) ∈ D) : ∃ i : Nat, D[i]? = some (x, y) ∧ (zwl w D E)[i]? = some (w.1 x y, E x y) := by
  obtain ⟨i, hi⟩ := List.getElem?_of_mem h
  exact ⟨i, hi, by unfold zwl; rw [List.getElem?_map, hi]; rfl⟩
theorem zwl_set {w : xW} {D : zD} {E : zE} {x y i : Nat} {e : va_E} (hn : D.Nodup) (hi : D[i]? = some (x, y)) : (zwl w D E).set i (w.1 x y, e) = zwl w D (zup E x y e) := by
  refine List.ext_getElem? fun n => ?_
  by_cases hx : n = i
  · subst hx
    rw [List.getElem?_set_self (by unfold zwl; rw [List.length_map]; exact (List.getElem?_eq_some_iff.mp hi).1)]
    unfold zwl
    rw [List.getElem?_map, hi]
    show some (w.1 x y, e) = some (w.1 x y, zup E x y e x y)
    unfold zup
    rw [if_pos ⟨rfl, rfl⟩]
  · rw [List.getElem?_set_ne (Ne.symm hx)]
    unfold zwl
    rw [List.getElem?_map, List.getElem?_map]
    cases hq : D[n]? with
    | none => rfl
    | some q =>
      obtain ⟨k', j'⟩ := q
      have hne : ¬ (k' = x ∧ j' = y) := by
        rintro ⟨rfl, rfl⟩
        obtain ⟨l1, e1⟩ := List.getElem?_eq_some_iff.mp hi
        obtain ⟨l2, e2⟩ := List.getElem?_eq_some_iff.mp hq
        exact hx ((List.getElem_inj hn).mp (e2.trans e1.symm))
      show some (_, E k' j') = some (_, zup E x y e k' j')
      unfold zup
      rw [if_neg hne]
theorem zRep.set {w : xW} {D : zD} {E : zE} {z x y i : Nat} {e : va_E} {H H1 : Heap} (h : zRep w D E z H) (hi : D[i]? = some (x, y)) (hP : va_P w.2.1 vwCl ((zwl w D E).set i (w.1 x y, e)) H1) (hD : va_D (xfr w) ((zwl w D E).set i (w.1 x y, e))) (hz : H1.size = H.size) : zRep w D (zup E x y e) z H1 := by
  rw [zwl_set h.2.2.1 hi] at hP hD
  exact ⟨hP, hD, h.2.2.1, hz.trans h.2.2.2⟩
theorem zRep.push {w : xW} {D : zD} {E : zE} {z x y : Nat} {e : va_E} {H H1 : Heap} (h : zRep w D E z H) (hn : (x, y) ∉ D) (hz : w.1 x y = z) (hA : xfr w z) (e1 : va_at w.2.1 vwCl (z, e) H1) (z1 : H1.size = H.size + 1) (o1 : ∀ q, q < H.size → H1[q]? = H[q]?) : zRep w (D ++ [(x, y)]) (zup E x y e) (z + 1) H1 := by
  obtain ⟨hP, hD, hN, hs⟩ := h
  have ew : zwl w (D ++ [(x, y)]) (zup E x y e) = zwl w D E ++ [(z, e)] := by
    unfold zwl
    rw [List.map_append]
    congr 1
    · refine List.map_congr_left (fun q hq => ?_)
      unfold zup
      rw [if_neg (fun c => hn (by rw [← c.1, ← c.2]; exact hq))]
    · show [(w.1 x y, zup E x y e x y)] = _
      unfold zup
      rw [if_pos ⟨rfl, rfl⟩, hz]
  have hk : ∀ (k : Nat) (q : Nat × va_E), (zwl w D E)[k]? = some q → H1[q.1]? = H[q.1]? := fun k q hq => o1 q.1 ((hP k q hq).lt)
  refine ⟨?_, ?_, ?_, by omega⟩
  · rw [ew]
    refine (hP.kept hk).app (fun k q hq => ?_)
    have hz : k < 1 := (List.getElem?_eq_some_iff.mp hq).1
    rw [show k = 0 by omega] at hq
    cases hq
    exact e1
  · rw [ew]
    exact hD.push hP hs.symm hA
  · refine List.nodup_append.mpr ⟨hN, List.nodup_cons.mpr ⟨List.not_mem_nil, List.nodup_nil⟩, fun a ha b hb => ?_⟩
    rw [List.mem_singleton.mp hb]
    exact fun c => hn (c ▸ ha)
/-- the nest mates that the constructors call -/
def znest : List (String × Nat × MethodName × String) := [("PromiseMarket$Timeline", 17, ⟨"PromiseMarket$Promise", "<init>", "()V"⟩, "PromiseMarket"), ("PromiseMarket$State", 26, ⟨"PromiseMarket$Sales", "<init>", "()V"⟩, "PromiseMarket"), ("PromiseMarket$State", 41, ⟨"PromiseMarket$Process", "<init>", "()V"⟩, "PromiseMarket"), ("PromiseMarket", 39, ⟨"PromiseMarket$SetupText", "<init>", "()V"⟩, "PromiseMarket")]
def zarr : List String := ["PromiseMarket$Promise", "PromiseMarket$Process", "PromiseMarket$State"]
def zNw (s : State) : Prop := (∀ q ∈ znest, va_Nw (.methodLinkNest q.1 q.2.1 q.2.2.1 q.2.2.2) s) ∧ ∀ C ∈ zarr, va_AO C s
/-- from here the method comes to its end; qq: it is a constructor -/
def Z (w : xW) (qq : Prop) (mi : xM) (TG : xT) (k n : Nat) (pc : Nat) (L st : List xV) (D : zD) (E : zE) (z : Nat) : Prop :=
  ∀ (p : Program) (l : Launch) (e : Env) (R : Room) (s : State) (m : MethodId) (args : Array Value) (below : List Frame) (meth : Method) (c : Code) (H : Heap) (locs : List Loc) (cells slots MC MS : Nat) (ls : Array Slot),
    xCx w mi p l R s m args meth c → (cells + k ≤ MC ∧ slots + n ≤ MS ∧ MC ≤ R.cells ∧ MS ≤ R.slots) → zRep w D E z H ∧ ((qq → meth.name = "<init>") ∧ zNw s) → va_S (xfr w) s.heap H locs → xlh w.1 ls mi.2.2.1 L → (∀ v ∈ L, xok v) → (∀ v ∈ st, xok v) →
    W p l e R s m args below meth c H locs cells slots (TG below args s MC MS) (F0 m pc ls (st.map (xc w.1)))
section ZR
variable {w : xW} {qq : Prop} {mi mi' : xM} {TG : xT} {k n pc pc' : Nat} {L st : List xV} {D : zD} {E : zE} {z : Nat}
theorem za_iconst {a : Int} (h : xd mi.2.1 pc (.iconst a) 1 pc') (kk : Z w qq mi TG k n pc' L (xi a :: st) D E z) : Z w qq mi TG k n pc L st D E z := by
  obtain ⟨hd, rfl⟩ := h
  intro p l e R s m args below meth c H locs cells slots MC MS ls hC hB hR hS hl hL hst
  exact lv_iconst hC.1 hC.2.1 hd rfl (kk p l e R s m args below meth c H locs cells slots MC MS ls hC hB hR hS hl hL (xok_of (v := xi a) trivial hst))
theorem za_bipush {a : Int} (h : xd mi.2.1 pc (.bipush a) 2 pc') (hv : (Int8.ofInt a).toInt32 = Int32.ofInt a) (kk : Z w qq mi TG k n pc' L (xi a :: st) D E z) : Z w qq mi TG k n pc L st D E z := by
  obtain ⟨hd, rfl⟩ := h
  intro p l e R s m args below meth c H locs cells slots MC MS ls hC hB hR hS hl hL hst
  exact lv_bipush hC.1 hC.2.1 hd hv (kk p l e R s m args below meth c H locs cells slots MC MS ls hC hB hR hS hl hL (xok_of (v := xi a) trivial hst))
theorem za_sipush {a : Int} (h : xd mi.2.1 pc (.sipush a) 3 pc') (hv : (Int16.ofInt a).toInt32 = Int32.ofInt a) (kk : Z w qq mi TG k n pc' L (xi a :: st) D E z) : Z w qq mi TG k n pc L st D E z := by
  obtain ⟨hd, rfl⟩ := h
  intro p l e R s m args below meth c H locs cells slots MC MS ls hC hB hR hS hl hL hst
  exact lv_sipush hC.1 hC.2.1 hd hv (kk p l e R s m args below meth c H locs cells slots MC MS ls hC hB hR hS hl hL (xok_of (v := xi a) trivial hst))
theorem za_lconst0 (h : xd mi.2.1 pc (.lconst 0) 1 pc') (kk : Z w qq mi TG k n pc' L (xl 0 :: st) D E z) : Z w qq mi TG k n pc L st D E z := by
  obtain ⟨hd, rfl⟩ := h
  intro p l e R s m args below meth c H locs cells slots MC MS ls hC hB hR hS hl hL hst
  exact lv_lconst (v := Int64.ofInt 0) hC.1 hC.2.1 hd (by decide) (kk p l e R s m args below meth c H locs cells slots MC MS ls hC hB hR hS hl hL (xok_of (v := xl 0) trivial hst))
theorem za_iloadN {q : Fin 4} {i : Nat} {a : Int} (h : xd mi.2.1 pc (.iload_n q) 1 pc') (hq : (q : Nat) = i) (hi : L[i]? = some (xi a)) (kk : Z w qq mi TG k n pc' L (xi a :: st) D E z) : Z w qq mi TG k n pc L st D E z := by
  obtain ⟨hd, rfl⟩ := h
  intro p l e R s m args below meth c H locs cells slots MC MS ls hC hB hR hS hl hL hst
  exact lv_iload_n hC.1 hC.2.1 hd hq (hl.get hi rfl) (kk p l e R s m args below meth c H locs cells slots MC MS ls hC hB hR hS hl hL (xok_of (v := xi a) trivial hst))
theorem za_iload {i : Nat} {a : Int} (h : xd mi.2.1 pc (.iload i) 2 pc') (hi : L[i]? = some (xi a)) (kk : Z w qq mi TG k n pc' L (xi a :: st) D E z) : Z w qq mi TG k n pc L st D E z := by
  obtain ⟨hd, rfl⟩ := h
  intro p l e R s m args below meth c H locs cells slots MC MS ls hC hB hR hS hl hL hst
  exact lv_iload hC.1 hC.2.1 hd (hl.get hi rfl) (kk p l e R s m args below meth c H locs cells slots MC MS ls hC hB hR hS hl hL (xok_of (v := xi a) trivial hst))
theorem za_aloadN {q : Fin 4} {i x y : Nat} (h : xd mi.2.1 pc (.aload_n q) 1 pc') (hq : (q : Nat) = i) (hi : L[i]? = some (xp x y)) (kk : Z w qq mi TG k n pc' L (xp x y :: st) D E z) : Z w qq mi TG k n pc L st D E z := by
  obtain ⟨hd, rfl⟩ := h
  intro p l e R s m args below meth c H locs cells slots MC MS ls hC hB hR hS hl hL hst
  exact lv_aload_n hC.1 hC.2.1 hd hq (hl.get hi rfl) (kk p l e R s m args below meth c H locs cells slots MC MS ls hC hB hR hS hl hL (xok_of (xok_at hL hi) hst))
theorem za_aload {i x y : Nat} (h : xd mi.2.1 pc (.aload i) 2 pc') (hi : L[i]? = some (xp x y)) (kk : Z w qq mi TG k n pc' L (xp x y :: st) D E z) : Z w qq mi TG k n pc L st D E z := by
  obtain ⟨hd, rfl⟩ := h
  intro p l e R s m args below meth c H locs cells slots MC MS ls hC hB hR hS hl hL hst
  exact lv_aload hC.1 hC.2.1 hd (hl.get hi rfl) (kk p l e R s m args below meth c H locs cells slots MC MS ls hC hB hR hS hl hL (xok_of (xok_at hL hi) hst))
theorem za_istoreN {q : Fin 4} {i : Nat} {a : Int} (h : xd mi.2.1 pc (.istore_n q) 1 pc') (hq : (q : Nat) = i) (hi : i < L.length) (hp : xpre L i) (kk : Z w qq mi TG k n pc' (L.set i (xi a)) st D E z) : Z w qq mi TG k n pc L (xi a :: st) D E z := by
  obtain ⟨hd, rfl⟩ := h
  intro p l e R s m args below meth c H locs cells slots MC MS ls hC hB hR hS hl hL hst
  exact lv_istore_n hC.1 hC.2.1 hd hq hl.2 (by rw [← hl.1]; exact hi) rfl (fun ls' hl' => kk p l e R s m args below meth c H locs cells slots MC MS ls' hC hB hR hS (xlh.set1 (v := xi a) hl.1 hp hl') (xok_set hL (v := xi a) trivial) (xok_cons hst).2)
theorem za_istore {i : Nat} {a : Int} (h : xd mi.2.1 pc (.istore i) 2 pc') (hi : i < L.length) (hp : xpre L i) (kk : Z w qq mi TG k n pc' (L.set i (xi a)) st D E z) : Z w qq mi TG k n pc L (xi a :: st) D E z := by
  obtain ⟨hd, rfl⟩ := h
  intro p l e R s m args below meth c H locs cells slots MC MS ls hC hB hR hS hl hL hst
  exact lv_istore hC.1 hC.2.1 hd hl.2 (by rw [← hl.1]; exact hi) rfl (fun ls' hl' => kk p l e R s m args below meth c H locs cells slots MC MS ls' hC hB hR hS (xlh.set1 (v := xi a) hl.1 hp hl') (xok_set hL (v := xi a) trivial) (xok_cons hst).2)
theorem za_astoreN {q : Fin 4} {i x y : Nat} (h : xd mi.2.1 pc (.astore_n q) 1 pc') (hq : (q : Nat) = i) (hi : i < L.length) (hp : xpre L i) (kk : Z w qq mi TG k n pc' (L.set i (xp x y)) st D E z) : Z w qq mi TG k n pc L (xp x y :: st) D E z := by
  obtain ⟨hd, rfl⟩ := h
  intro p l e R s m args below meth c H locs cells slots MC MS ls hC hB hR hS hl hL hst
  exact lv_astore_n hC.1 hC.2.1 hd hq hl.2 (by rw [← hl.1]; exact hi) rfl (fun ls' hl' => kk p l e R s m args below meth c H locs cells slots MC MS ls' hC hB hR hS (xlh.set1 (v := xp x y) hl.1 hp hl') (xok_set hL (xok_cons hst).1) (xok_cons hst).2)
theorem za_iinc {i : Nat} {a d : Int} (h : xd mi.2.1 pc (.iinc i d) 3 pc') (hi : L[i]? = some (xi a)) (hp : xpre L i) (kk : Z w qq mi TG k n pc' (L.set i (xi (a + d))) st D E z) : Z w qq mi TG k n pc L st D E z := by
  obtain ⟨hd, rfl⟩ := h
  intro p l e R s m args below meth c H locs cells slots MC MS ls hC hB hR hS hl hL hst
  obtain ⟨q, hq⟩ := List.getElem?_of_mem (xpl_mem (ad := w.1) (L := L) (n := 0) (q := (i, xc w.1 (xi a))) |>.mpr ⟨i, xi a, by simp, hi, rfl, rfl⟩)
  have hlt : i < mi.2.2.1 := by rw [← hl.1]; exact (List.getElem?_eq_some_iff.mp hi).1
  exact lv_iinc (v := Int32.ofInt (a + d)) hC.1 hC.2.1 hd hl.2 (k := q) hq (Int32.ofInt_add a d).symm hlt rfl (fun ls' hl' => kk p l e R s m args below meth c H locs cells slots MC MS ls' hC hB hR hS (xlh.set1 (v := xi (a + d)) hl.1 hp hl') (xok_set hL (v := xi (a + d)) trivial) hst)
theorem za_dup {v : xV} (h : xd mi.2.1 pc .dup 1 pc') (hv : xcat2 v = false) (kk : Z w qq mi TG k n pc' L (v :: v :: st) D E z) : Z w qq mi TG k n pc L (v :: st) D E z := by
  obtain ⟨hd, rfl⟩ := h
  intro p l e R s m args below meth c H locs cells slots MC MS ls hC hB hR hS hl hL hst
  exact lv_dup hC.1 hC.2.1 hd (xn_cat1 hv) (kk p l e R s m args below meth c H locs cells slots MC MS ls hC hB hR hS hl hL (xok_of (xok_cons hst).1 hst))
theorem za_goto {off : Int} {tgt : Nat} (h : xd mi.2.1 pc (.goto off) 3 pc') (ht : (pc : Int) + off = (tgt : Int)) (kk : Z w qq mi TG k n tgt L st D E z) : Z w qq mi TG k n pc L st D E z := by
  obtain ⟨hd, rfl⟩ := h
  intro p l e R s m args below meth c H locs cells slots MC MS ls hC hB hR hS hl hL hst
  exact lv_goto hC.1 hC.2.1 hd ht (kk p l e R s m args below meth c H locs cells slots MC MS ls hC hB hR hS hl hL hst)
theorem za_icmp_ge {a b : Int} {off : Int} {tgt : Nat} (h : xd mi.2.1 pc (.if_icmp .ge off) 3 pc') (ht : (pc : Int) + off = (tgt : Int)) (ha : xr a) (hb : xr b) (kt : b ≤ a → Z w qq mi TG k n tgt L st D E z) (kf : a < b → Z w qq mi TG k n pc' L st D E z) : Z w qq mi TG k n pc L (xi b :: xi a :: st) D E z := by
  obtain ⟨hd, rfl⟩ := h
  intro p l e R s m args below meth c H locs cells slots MC MS ls hC hB hR hS hl hL hst
  have hst2 := (xok_cons (xok_cons hst).2).2
  exact lv_icmp_ge hC.1 hC.2.1 hd ht (fun z => (kt ((xn_le hb ha).mp z) p l e R s m args below meth c H locs cells slots MC MS ls hC hB hR hS hl hL hst2)) (fun z => (kf (by have z2 : ¬ (b ≤ a) := fun q => z ((xn_le hb ha).mpr q); omega) p l e R s m args below meth c H locs cells slots MC MS ls hC hB hR hS hl hL hst2))
theorem za_icmp_lt {a b : Int} {off : Int} {tgt : Nat} (h : xd mi.2.1 pc (.if_icmp .lt off) 3 pc') (ht : (pc : Int) + off = (tgt : Int)) (ha : xr a) (hb : xr b) (kt : a < b → Z w qq mi TG k n tgt L st D E z) (kf : b ≤ a → Z w qq mi TG k n pc' L st D E z) : Z w qq mi TG k n pc L (xi b :: xi a :: st) D E z := by
  obtain ⟨hd, rfl⟩ := h
  intro p l e R s m args below meth c H locs cells slots MC MS ls hC hB hR hS hl hL hst
  have hst2 := (xok_cons (xok_cons hst).2).2
  exact lv_icmp_lt hC.1 hC.2.1 hd ht (fun z => (kt ((xn_lt ha hb).mp z) p l e R s m args below meth c H locs cells slots MC MS ls hC hB hR hS hl hL hst2)) (fun z => (kf (by have z2 : ¬ (a < b) := fun q => z ((xn_lt ha hb).mpr q); omega) p l e R s m args below meth c H locs cells slots MC MS ls hC hB hR hS hl hL hst2))
theorem za_i2l {a : Int} (h : xd mi.2.1 pc .i2l 1 pc') (ha : xr a) (kk : Z w qq mi TG k n pc' L (xl a :: st) D E z) : Z w qq mi TG k n pc L (xi a :: st) D E z := by
  obtain ⟨hd, rfl⟩ := h
  intro p l e R s m args below meth c H locs cells slots MC MS ls hC hB hR hS hl hL hst
  exact lv_i2l hC.1 hC.2.1 hd (xn_i2l ha) (kk p l e R s m args below meth c H locs cells slots MC MS ls hC hB hR hS hl hL (xok_of (v := xl a) trivial (xok_cons hst).2))
theorem za_get {x y f ci index N : Nat} {v : xV} {C : String} {T : u_T} {fs : List Value} (h : xd mi.2.1 pc (.getfield index) 3 pc') (hw : Cond.fieldLink mi.1 index (T f).1 (T f).2.1 (T f).2.2.1 ∈ xtb) (hin : ∀ w ∈ u_ws C T N, w ∈ xtb) (hc : vwCl[ci]? = some (C, T, N)) (hf : f < N) (hm : (x, y) ∈ D)
    (he : E x y = .inr (ci, fs)) (hv : fs[f]? = some (xc w.1 v)) (hok : xok v) (kk : Z w qq mi TG k n pc' L (v :: st) D E z) : Z w qq mi TG k n pc L (xp x y :: st) D E z := by
  obtain ⟨hd, rfl⟩ := h
  intro p l e R s m args below meth c H locs cells slots MC MS ls hC hB hR hS hl hL hst
  obtain ⟨i, -, hi⟩ := zwl_in (w := w) (E := E) hm
  exact va_get (D := w.2.1) (cl := vwCl) (ws := zwl w D E) (ref := (T f).1) hC.1 hC.2.1 hC.2.2.2.2.2.1 hin hC.2.2.2.2.1 hC.2.2.2.2.2.2.2.2.2.2.1 hR.1.1 i (hi.trans (by rw [he])) hc f hf (hC.2.2.2.2.2.1 _ hw) (fun _ h9 => h9) hv hd (kk p l e R s m args below meth c H locs cells slots MC MS ls hC hB hR hS hl hL (xok_of hok (xok_cons hst).2))
theorem za_tok {index i : Nat} (h : xd mi.2.1 pc (.getstatic index) 3 pc') (hi : i < 1) (hw : Cond.fieldLink mi.1 index "PromiseMarket$Token" (["END"].getD i "") "LPromiseMarket$Token;" ∈ xtb) (kk : Z w qq mi TG k n pc' L (xp 50 i :: st) D E z) : Z w qq mi TG k n pc L st D E z := by
  obtain ⟨hd, rfl⟩ := h
  intro p l e R s m args below meth c H locs cells slots MC MS ls hC hB hR hS hl hL hst
  have hE := (hC.2.2.2.2.2.2.2.2.2.2).2.2.1.1
  exact va_gets (A := xfr w) hC.1 hC.2.1 (hE.1 i hi).1 hS hC.2.2.2.2.1 (hC.2.2.2.2.2.1 _ hw) (fun _ h9 => h9) hd (kk p l e R s m args below meth c H locs cells slots MC MS ls hC hB hR hS hl hL (xok_of (v := xp 50 i) rfl hst))
theorem za_put {x y f ci index N : Nat} {u : xV} {ty : FieldType} {ty0 : Nat → FieldType} {C : String} {T : u_T} {fs : List Value} (h : xd mi.2.1 pc (.putfield index) 3 pc') (hw : Cond.fieldLink mi.1 index (T f).1 (T f).2.1 (T f).2.2.1 ∈ xtb) (hin : ∀ w ∈ u_ws C T N, w ∈ xtb) (hty : ∀ k, k < N → parseFieldDescriptor (T k).2.2.1 = some (ty0 k)) (hnm : ∀ a, a < N → ∀ b, b < N → a ≠ b → (T a).2.1 ≠ (T b).2.1) (hc : vwCl[ci]? = some (C, T, N)) (hf : f < N) (hm : (x, y) ∈ D)
    (he : E x y = .inr (ci, fs)) (hfin : (T f).2.2.2 = false) (hdt : parseFieldDescriptor (T f).2.2.1 = some ty) (hn : narrow ty (xc w.1 u) = xc w.1 u) (hfit : fits ty (xc w.1 u) = true) (hl0 : f < fs.length)
    (kk : Z w qq mi TG k n pc' L st D (zup E x y (.inr (ci, fs.set f (xc w.1 u)))) z) : Z w qq mi TG k n pc L (u :: xp x y :: st) D E z := by
  obtain ⟨hd, rfl⟩ := h
  intro p l e R s m args below meth c H locs cells slots MC MS ls hC hB hR hS hl hL hst
  have hst2 := (xok_cons hst).2
  obtain ⟨hZ, hq⟩ := hR
  obtain ⟨i, hi0, hi⟩ := zwl_in (w := w) (E := E) hm
  rw [he] at hi
  have hts := hC.2.2.2.2.2.1
  have hK := hC.2.2.2.2.2.2.2.2.2.2.1
  have hap := va_apart (own := mi.1) hts hin ty0 hty hnm hK hc
  obtain ⟨r, h1, cell, q1, q2, q3, q4⟩ := hZ.1 i _ hi
  have hr : r = (C, T, N) := Option.some.inj (h1.symm.trans hc)
  subst hr
  obtain ⟨hSf, hfc, kC, hkC, hkind⟩ := hK.1 ci _ hc
  obtain ⟨cf, kf, fi, f', hi', hsl⟩ := hSf f hf
  have hlay := hts _ (hin _ (u_in_lay hf))
  unfold u_lay at hlay
  rw [if_neg (by rw [hfin]; decide)] at hlay
  have hst' := (u_facts hfc hkC (u_lays hts hin hf) hi').1
  have h6 := u_store hfc hkC hkind hlay hi' hdt hn hfit
  refine W.putK hC.1 hC.2.1 (f := f') ⟨hC.2.2.2.2.1, hts _ hw, ⟨_, _, _, hi'⟩, hst'⟩ (by rw [q2]; exact h6) q1 q3 (by rw [hsl]; exact k2_hasslot (q4 f hf)) rfl rfl hd fun H' e1 e2 e3 => ?_
  rw [hsl] at e1 ⊢
  exact kk p l e R s m args below meth c H' _ cells slots MC MS ls hC hB ⟨hZ.set hi0 (hZ.1.set hZ.2.1 hi ⟨_, hc, t_OB.to (V := updV (vp_V fs) f (xc w.1 u)) ⟨_, e1, q2, q3, t_set q4 hap hf (xc w.1 u)⟩ (fun j _ => vp_updV_set hl0 (xc w.1 u) j)⟩ e3) (hZ.2.1.set hi) e2, hq⟩ (hS.put e2 e3 (hZ.2.1.2 i _ hi)) hl hL (xok_cons hst2).2
theorem za_putF {x y f ci index N : Nat} {u : xV} {ty : FieldType} {ty0 : Nat → FieldType} {C : String} {T : u_T} {fs : List Value} (h : xd mi.2.1 pc (.putfield index) 3 pc') (hw : Cond.fieldLink mi.1 index (T f).1 (T f).2.1 (T f).2.2.1 ∈ xtb) (hin : ∀ w ∈ u_ws C T N, w ∈ xtb) (hty : ∀ k, k < N → parseFieldDescriptor (T k).2.2.1 = some (ty0 k)) (hnm : ∀ a, a < N → ∀ b, b < N → a ≠ b → (T a).2.1 ≠ (T b).2.1) (hc : vwCl[ci]? = some (C, T, N)) (hf : f < N) (hm : (x, y) ∈ D)
    (he : E x y = .inr (ci, fs)) (hfin : (T f).2.2.2 = true) (hqq : qq) (hdecl : (T f).1 = mi.1) (hdt : parseFieldDescriptor (T f).2.2.1 = some ty) (hn : narrow ty (xc w.1 u) = xc w.1 u) (hfit : fits ty (xc w.1 u) = true) (hl0 : f < fs.length)
    (kk : Z w qq mi TG k n pc' L st D (zup E x y (.inr (ci, fs.set f (xc w.1 u)))) z) : Z w qq mi TG k n pc L (u :: xp x y :: st) D E z := by
  obtain ⟨hd, rfl⟩ := h
  intro p l e R s m args below meth c H locs cells slots MC MS ls hC hB hR hS hl hL hst
  have hst2 := (xok_cons hst).2
  obtain ⟨hZ, hq⟩ := hR
  obtain ⟨i, hi0, hi⟩ := zwl_in (w := w) (E := E) hm
  rw [he] at hi
  have hts := hC.2.2.2.2.2.1
  have hK := hC.2.2.2.2.2.2.2.2.2.2.1
  have hap := va_apart (own := mi.1) hts hin ty0 hty hnm hK hc
  obtain ⟨r, h1, cell, q1, q2, q3, q4⟩ := hZ.1 i _ hi
  have hr : r = (C, T, N) := Option.some.inj (h1.symm.trans hc)
  subst hr
  obtain ⟨hSf, hfc, kC, hkC, hkind⟩ := hK.1 ci _ hc
  obtain ⟨cf, kf, fi, f', hi', hsl⟩ := hSf f hf
  have hlay := hts _ (hin _ (u_in_lay hf))
  unfold u_lay at hlay
  rw [if_pos hfin] at hlay
  have hst' := (u_facts hfc hkC (u_lays hts hin hf) hi').1
  have hcf : m.cls = cf := by
    obtain ⟨_, _, c', _, _, _, -, -, hf', -, -, -, hown2, -⟩ := Cond.laysFinal_spec hlay
    have e1 : c' = cf := by have := hi'.symm.trans hf'; simp at this; exact this.1.symm
    rw [hdecl] at hown2
    rw [← e1]; exact Option.some.inj (hC.2.2.2.2.1.symm.trans hown2)
  have h6 := u_fits hfc hkC hkind (Or.inr hlay) hi' hdt hn hfit
  refine W.putFinK hC.1 hC.2.1 hC.2.2.2.2.1 (hts _ hw) hi' hst' hcf (hq.1 hqq) (by rw [q2]; exact h6) q1 q3 (by rw [hsl]; exact k2_hasslot (q4 f hf)) rfl rfl hd fun H' e1 e2 e3 => ?_
  rw [hsl] at e1 ⊢
  exact kk p l e R s m args below meth c H' _ cells slots MC MS ls hC hB ⟨hZ.set hi0 (hZ.1.set hZ.2.1 hi ⟨_, hc, t_OB.to (V := updV (vp_V fs) f (xc w.1 u)) ⟨_, e1, q2, q3, t_set q4 hap hf (xc w.1 u)⟩ (fun j _ => vp_updV_set hl0 (xc w.1 u) j)⟩ e3) (hZ.2.1.set hi) e2, hq⟩ (hS.put e2 e3 (hZ.2.1.2 i _ hi)) hl hL (xok_cons hst2).2
theorem za_new {x y ci index N : Nat} {ty0 : Nat → FieldType} {C : String} {T : u_T} {fs : List Value} (h : xd mi.2.1 pc (.new index) 3 pc') (hw : ∀ u ∈ [Cond.classLink mi.1 index C, .instantiable C N, .initialized C], u ∈ xtb) (hin : ∀ w ∈ u_ws C T N, w ∈ xtb) (hty : ∀ k, k < N → parseFieldDescriptor (T k).2.2.1 = some (ty0 k)) (hc : vwCl[ci]? = some (C, T, N)) (hfs : ∀ j, j < N → defaultValue (ty0 j) = vp_V fs j)
    (hok : xval x y = true) (hz : w.1 x y = z) (hn : (x, y) ∉ D) (hk : 1 ≤ k ∧ N ≤ n) (kk : Z w qq mi TG (k - 1) (n - N) pc' L (xp x y :: st) (D ++ [(x, y)]) (zup E x y (.inr (ci, fs))) (z + 1)) : Z w qq mi TG k n pc L st D E z := by
  obtain ⟨hd, rfl⟩ := h
  intro p l e R s m args below meth c H locs cells slots MC MS ls hC hB hR hS hl hL hst
  obtain ⟨hZ, hq⟩ := hR
  have hts := hC.2.2.2.2.2.1
  have hK := hC.2.2.2.2.2.2.2.2.2.2.1
  have hKn := hK.1 ci _ hc
  have hA : xfr w z := Nat.le_trans hC.2.2.2.2.2.2.2.2.2.2.2.1 (by rw [← hZ.2.2.2]; exact hS.1)
  refine W.newcK hC.1 hC.2.1 hC.2.2.2.2.1 (hts (.classLink mi.1 index C) (hw _ (by simp))) (hts (.instantiable C N) (hw _ (by simp))) (hts (.initialized C) (hw _ (by simp))) rfl hd (by omega) (by omega) hKn.2.1 rfl fun H1 kC hkC e1 z1 o1 => ?_
  have h9 := kk p l e R s m args below meth c H1 locs (cells + 1) (slots + N) MC MS ls hC (by omega) ⟨hZ.push (e := .inr (ci, fs)) hn hz hA (by rw [← hZ.2.2.2]; exact ⟨_, hc, (u_born ty0 hts hin hKn hkC e1 hty).to hfs⟩) z1 o1, hq⟩ ⟨Nat.le_trans hS.1 (by omega), fun q h1 h2 => (o1 q (Nat.lt_of_lt_of_le h1 hS.1)).trans (hS.2.1 q h1 h2), hS.2.2⟩ hl hL (xok_of (v := xp x y) hok hst)
  rw [List.map_cons, show xc w.1 (xp x y) = Value.ref H.size by rw [hZ.2.2.2, ← hz]; rfl] at h9
  exact h9
theorem za_newa {x y N t : Nat} {atype : ArrayType} {ty : FieldType} {cA : ClassId} {a : Int} {a0 : vp_A} (h : xd mi.2.1 pc (.newarray atype) 2 pc') (hw : Cond.arrayClass (newarray.typeOf atype) ∈ xtb) (hty : newarray.typeOf atype = ty) (ht : (xtys w)[t]? = some (cA, ty)) (hra : ∀ U c, va_RA U c ty = (U.vm.findClass ("[" ++ ty.toString) = some c)) (ha : ∀ c : ClassId, vp_cell c a0 = arrV c N (fun _ => defaultValue ty)) (ea : a = (N : Int)) (hN : N < 2147483648) (hb : N * componentBytes ty ≤ 536870912)
    (hok : xval x y = true) (hz : w.1 x y = z) (hn : (x, y) ∉ D) (hk : 1 ≤ k ∧ N ≤ n) (kk : Z w qq mi TG (k - 1) (n - N) pc' L (xp x y :: st) (D ++ [(x, y)]) (zup E x y (.inl (cA, a0))) (z + 1)) : Z w qq mi TG k n pc L (xi a :: st) D E z := by
  obtain ⟨hd, rfl⟩ := h
  subst ea
  subst hty
  intro p l e R s m args below meth c H locs cells slots MC MS ls hC hB hR hS hl hL hst
  obtain ⟨hZ, hq⟩ := hR
  have hts := hC.2.2.2.2.2.1
  have hK := hC.2.2.2.2.2.2.2.2.2.2.1
  have hA : xfr w z := Nat.le_trans hC.2.2.2.2.2.2.2.2.2.2.2.1 (by rw [← hZ.2.2.2]; exact hS.1)
  have hr : xr (N : Int) := by omega
  refine va_newaK hC.1 hC.2.1 (hts _ hw) rfl hd rfl (n := Int32.ofInt (N : Int)) (N := N) (by rw [xn_0, xn_lt hr xn_r0]; omega) (by rw [xn_nat hr (by omega)]; rfl) hb (by omega) (by omega) rfl fun H1 c1 e1 z1 o1 hAr hNm => ?_
  have hc1 : c1 = cA := by
    have h2 := (hK.2 t _ ht).2
    rw [hra] at h2
    exact Option.some.inj (hNm.symm.trans h2)
  subst hc1
  have h9 := kk p l e R s m args below meth c H1 locs (cells + 1) (slots + N) MC MS ls hC (by omega) ⟨hZ.push (e := .inl (c1, a0)) hn hz hA (by rw [← hZ.2.2.2]; show H1[H.size]? = some (vp_cell c1 a0); rw [ha]; exact e1) z1 o1, hq⟩ ⟨Nat.le_trans hS.1 (by omega), fun q h1 h2 => (o1 q (Nat.lt_of_lt_of_le h1 hS.1)).trans (hS.2.1 q h1 h2), hS.2.2⟩ hl hL (xok_of (v := xp x y) hok (xok_cons hst).2)
  rw [List.map_cons, show xc w.1 (xp x y) = Value.ref H.size by rw [hZ.2.2.2, ← hz]; rfl] at h9
  exact h9
theorem za_newq {x y N t index : Nat} {C : String} {cA : ClassId} {a : Int} (h : xd mi.2.1 pc (.anewarray index) 3 pc') (hw : Cond.classLink mi.1 index C ∈ xtb) (hC9 : C ∈ zarr) (ht : (xtys w)[t]? = some (cA, .object C)) (ea : a = (N : Int)) (hN : N < 2147483648) (hb : N * 4 ≤ 536870912)
    (hok : xval x y = true) (hz : w.1 x y = z) (hn : (x, y) ∉ D) (hk : 1 ≤ k ∧ N ≤ n) (kk : Z w qq mi TG (k - 1) (n - N) pc' L (xp x y :: st) (D ++ [(x, y)]) (zup E x y (.inl (cA, N, .inr (.inr (.inr (.inr fun _ => none)))))) (z + 1)) : Z w qq mi TG k n pc L (xi a :: st) D E z := by
  obtain ⟨hd, rfl⟩ := h
  subst ea
  intro p l e R s m args below meth c H locs cells slots MC MS ls hC hB hR hS hl hL hst
  obtain ⟨hZ, hq⟩ := hR
  have hts := hC.2.2.2.2.2.1
  have hK := hC.2.2.2.2.2.2.2.2.2.2.1
  have hA : xfr w z := Nat.le_trans hC.2.2.2.2.2.2.2.2.2.2.2.1 (by rw [← hZ.2.2.2]; exact hS.1)
  have hr : xr (N : Int) := by omega
  have hNN : (Int32.ofInt (N : Int)).toNatClampNeg = N := by rw [xn_nat hr (by omega)]; rfl
  refine W.anew hC.1 hC.2.1 hC.2.2.2.2.1 (hts (.classLink mi.1 index C) hw) (va_AO.use (hq.2.2 C hC9)) rfl hd rfl (n := Int32.ofInt (N : Int)) (by rw [xn_0, xn_lt hr xn_r0]; omega) (by rw [hNN]; exact hb) (by omega) (by rw [hNN]; omega) fun c1 kA comp f1 f2 f3 f4 => ?_
  have hc1 : c1 = cA := by
    obtain ⟨kA2, comp2, g1, g2, g3, g4⟩ := (hK.2 t _ ht).2
    exact Option.some.inj (f1.symm.trans g4)
  subst hc1
  rw [hNN]
  generalize hH1 : H.push ({ cls := c1, slots := Array.replicate N .null, vm := .none } : Cell) = H1
  have z1 : H1.size = H.size + 1 := by rw [← hH1, Array.size_push]
  have e1 : H1[H.size]? = some (arrV c1 N (fun _ => .null)) := by rw [← hH1, Array.getElem?_push_size, ← arrV_new]
  have o1 : ∀ q : Nat, q < H.size → H1[q]? = H[q]? := fun q hq => by rw [← hH1, Array.getElem?_push, if_neg (Nat.ne_of_lt hq)]
  have h9 := kk p l e R s m args below meth c H1 locs (cells + 1) (slots + N) MC MS ls hC (by omega) ⟨hZ.push (e := .inl (c1, N, .inr (.inr (.inr (.inr fun _ => none))))) hn hz hA (by rw [← hZ.2.2.2]; show H1[H.size]? = some (vp_cell _ _); rw [vp_cell_q]; exact e1) z1 o1, hq⟩ ⟨Nat.le_trans hS.1 (by omega), fun q h1 h2 => (o1 q (Nat.lt_of_lt_of_le h1 hS.1)).trans (hS.2.1 q h1 h2), hS.2.2⟩ hl hL (xok_of (v := xp x y) hok (xok_cons hst).2)
  rw [List.map_cons, show xc w.1 (xp x y) = Value.ref H.size by rw [hZ.2.2.2, ← hz]; rfl] at h9
  exact h9
theorem za_ast {x y x2 y2 N t ci : Nat} {cA : ClassId} {r : vw_C} {vs : List Value} {f : Nat → Option Nat} {a : Int} (h : xd mi.2.1 pc .aastore 1 pc') (ht : (xtys w)[t]? = some (cA, .object r.1)) (hm : (x, y) ∈ D) (he : E x y = .inl (cA, N, .inr (.inr (.inr (.inr f))))) (hm2 : (x2, y2) ∈ D) (he2 : E x2 y2 = .inr (ci, vs)) (hc : vwCl[ci]? = some r) (ha : 0 ≤ a ∧ a < N) (hN : N < 2147483648)
    (kk : Z w qq mi TG k n pc' L st D (zup E x y (.inl (cA, N, .inr (.inr (.inr (.inr (va_up f a.toNat (some (w.1 x2 y2)))))))) ) z) : Z w qq mi TG k n pc L (xp x2 y2 :: xi a :: xp x y :: st) D E z := by
  obtain ⟨hd, rfl⟩ := h
  intro p l e R s m args below meth c H locs cells slots MC MS ls hC hB hR hS hl hL hst
  obtain ⟨hZ, hq⟩ := hR
  have hK := hC.2.2.2.2.2.2.2.2.2.2.1
  obtain ⟨i, hi0, hi⟩ := zwl_in (w := w) (E := E) hm
  rw [he] at hi
  obtain ⟨i2, -, hi2⟩ := zwl_in (w := w) (E := E) hm2
  rw [he2] at hi2
  have hra : xr a := by omega
  have han : (Int32.ofInt a).toNatClampNeg = a.toNat := xn_nat hra ha.1
  have h0 : ¬ Int32.ofInt a < 0 := by rw [xn_0, xn_lt hra xn_r0]; omega
  have hlt : a.toNat < N := by omega
  obtain ⟨r', hr', cellV, g1, g2, g3, -⟩ := hZ.1 i2 _ hi2
  have hcls := (hK.1 ci r hc).2
  obtain ⟨kA, comp, k1, k2, k3, -⟩ := (hK.2 t _ ht).2
  have hcomp : comp = w.2.1.1 ci := Option.some.inj (k3.symm.trans hcls.1)
  subst hcomp
  obtain ⟨kC, hkC, -⟩ := hcls.2
  refine W.aast hC.1 hC.2.1 (hZ.1 i _ hi) (fun q h => by cases h) (fun h => by cases h) k1 k2 rfl hkC ⟨h0, by show _ < (arrV _ _ _).slots.size; rw [arrV_size, han]; exact hlt⟩ g1 (fun q h => by rw [g3] at h; cases h) (by rw [g2]; exact hkC) (by rw [g2]; exact va_assign hcls) rfl rfl hd fun H1 e1 z1 oq => ?_
  refine kk p l e R s m args below meth c H1 _ cells slots MC MS ls hC hB ⟨hZ.set hi0 (hZ.1.set hZ.2.1 hi ?_ oq) (hZ.2.1.set hi) z1, hq⟩ (hS.put z1 oq (hZ.2.1.2 i _ hi)) hl hL (xok_cons (xok_cons (xok_cons hst).2).2).2
  show H1[w.1 x y]? = some (vp_cell _ _)
  rw [e1, vp_cell_q, vp_cell_q, arrV_store, han]
  congr 2
  funext q
  by_cases hq9 : q = a.toNat
  · subst hq9
    simp [updV, va_up, va_rf]
  · simp [updV, va_up, hq9]
theorem za_iast {x y N t : Nat} {cA : ClassId} {f : Nat → Int32} {a v : Int} (h : xd mi.2.1 pc .iastore 1 pc') (ht : (xtys w)[t]? = some (cA, .int)) (hm : (x, y) ∈ D) (he : E x y = .inl (cA, N, .inl f)) (ha : 0 ≤ a ∧ a < N) (hN : N < 2147483648)
    (kk : Z w qq mi TG k n pc' L st D (zup E x y (.inl (cA, N, .inl (fun j => if j = a.toNat then Int32.ofInt v else f j)))) z) : Z w qq mi TG k n pc L (xi v :: xi a :: xp x y :: st) D E z := by
  obtain ⟨hd, rfl⟩ := h
  intro p l e R s m args below meth c H locs cells slots MC MS ls hC hB hR hS hl hL hst
  obtain ⟨hZ, hq⟩ := hR
  have hK := hC.2.2.2.2.2.2.2.2.2.2.1
  obtain ⟨i, hi0, hi⟩ := zwl_in (w := w) (E := E) hm
  rw [he] at hi
  have hra : xr a := by omega
  have han : (Int32.ofInt a).toNatClampNeg = a.toNat := xn_nat hra ha.1
  refine W.iast hC.1 hC.2.1 (hZ.1 i _ hi) ((hK.2 t _ ht).1 N (fun j => .int (f j))) (fun q => by cases q) (by show ¬ (Int32.ofInt a < 0 ∨ (arrV _ _ _).slots.size ≤ _); rw [arrV_size]; exact xn_in ha hN) rfl rfl hd fun H1 e1 z1 oq => ?_
  refine kk p l e R s m args below meth c H1 _ cells slots MC MS ls hC hB ⟨hZ.set hi0 (hZ.1.set hZ.2.1 hi ?_ oq) (hZ.2.1.set hi) z1, hq⟩ (hS.put z1 oq (hZ.2.1.2 i _ hi)) hl hL (xok_cons (xok_cons (xok_cons hst).2).2).2
  show H1[w.1 x y]? = some (vp_cell _ _)
  rw [e1, vp_cell_i, vp_cell_i, arrV_store, han]
  congr 2
  funext q
  by_cases hq9 : q = a.toNat
  · subst hq9
    simp [updV]
  · simp [updV, hq9]
end ZR
