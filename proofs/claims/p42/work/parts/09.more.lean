/-! rows of the abstract machine, on -/
section XM
variable {w : xW} {mi : xM} {TG : xT} {k n pc pc' : Nat} {L st : List xV} {S : xS} {A : Option xV → xS → Prop} {B : String → xS → Prop}
/-- a constant of the enum -/
theorem xa_tok {index i : Nat} (h : xd mi.2.1 pc (.getstatic index) 3 pc') (hi : i < 1) (hw : Cond.fieldLink mi.1 index "PromiseMarket$Token" (["END"].getD i "") "LPromiseMarket$Token;" ∈ xtb) (kk : X w mi TG k n pc' L (xp 50 i :: st) S) : X w mi TG k n pc L st S := by
  obtain ⟨hd, rfl⟩ := h
  intro p l e R s m args below meth c H locs cells slots MC MS ls hC hB hR hS hl hL hst
  have hE := (hC.2.2.2.2.2.2.2.2.2.2).2.2.1.1
  exact va_gets (A := xfr w) hC.1 hC.2.1 (hE.1 i hi).1 hS hC.2.2.2.2.1 (hC.2.2.2.2.2.1 _ hw) (fun _ h9 => h9) hd (kk p l e R s m args below meth c H locs cells slots MC MS ls hC hB hR hS hl hL (xok_of (v := xp 50 i) rfl hst))
theorem xa_acmp_eq {a b : Nat} {off : Int} {tgt : Nat} (h : xd mi.2.1 pc (.if_acmp .eq off) 3 pc') (ht : (pc : Int) + off = (tgt : Int)) (ha : a < 1) (hb : b < 1) (kt : a = b → X w mi TG k n tgt L st S) (kf : a ≠ b → X w mi TG k n pc' L st S) : X w mi TG k n pc L (xp 50 b :: xp 50 a :: st) S := by
  obtain ⟨hd, rfl⟩ := h
  intro p l e R s m args below meth c H locs cells slots MC MS ls hC hB hR hS hl hL hst
  have hE := (hC.2.2.2.2.2.2.2.2.2.2).2.2.1.1
  have hst2 := (xok_cons (xok_cons hst).2).2
  exact lv_acmp_eq (rx := some (w.1 50 a)) (ry := some (w.1 50 b)) hC.1 hC.2.1 hd ht (fun z => kt (hE.2 a b ha hb (Option.some.inj z)) p l e R s m args below meth c H locs cells slots MC MS ls hC hB hR hS hl hL hst2) (fun z => kf (fun q => z (by rw [q])) p l e R s m args below meth c H locs cells slots MC MS ls hC hB hR hS hl hL hst2)
theorem xa_acmp_ne {a b : Nat} {off : Int} {tgt : Nat} (h : xd mi.2.1 pc (.if_acmp .ne off) 3 pc') (ht : (pc : Int) + off = (tgt : Int)) (ha : a < 1) (hb : b < 1) (kt : a ≠ b → X w mi TG k n tgt L st S) (kf : a = b → X w mi TG k n pc' L st S) : X w mi TG k n pc L (xp 50 b :: xp 50 a :: st) S := by
  obtain ⟨hd, rfl⟩ := h
  intro p l e R s m args below meth c H locs cells slots MC MS ls hC hB hR hS hl hL hst
  have hE := (hC.2.2.2.2.2.2.2.2.2.2).2.2.1.1
  have hst2 := (xok_cons (xok_cons hst).2).2
  exact lv_acmp_ne (rx := some (w.1 50 a)) (ry := some (w.1 50 b)) hC.1 hC.2.1 hd ht (fun z => kt (fun q => z (by rw [q])) p l e R s m args below meth c H locs cells slots MC MS ls hC hB hR hS hl hL hst2) (fun z => kf (hE.2 a b ha hb (Option.some.inj z)) p l e R s m args below meth c H locs cells slots MC MS ls hC hB hR hS hl hL hst2)
/-- a text -/
theorem xa_ldcS {index i : Nat} {tx : String} (h : xd mi.2.1 pc (.ldc index) 2 pc') (hs : (mi.1, index, tx, i) ∈ xstr) (kk : X w mi TG k n pc' L (xp 51 i :: st) S) : X w mi TG k n pc L st S := by
  obtain ⟨hd, rfl⟩ := h
  intro p l e R s m args below meth c H locs cells slots MC MS ls hC hB hR hS hl hL hst
  have hSt := hC.2.2.2.2.2.2.2.2.2.2
  exact va_ldcS hC.1 hC.2.1 hC.2.2.2.2.1 (hSt.2.2.2.1.2.1 _ hs) hd (kk p l e R s m args below meth c H locs cells slots MC MS ls hC hB hR hS hl hL (xok_of (v := xp 51 i) rfl hst))
theorem xa_ldcwS {index i : Nat} {tx : String} (h : xd mi.2.1 pc (.ldc_w index) 3 pc') (hs : (mi.1, index, tx, i) ∈ xstr) (kk : X w mi TG k n pc' L (xp 51 i :: st) S) : X w mi TG k n pc L st S := by
  obtain ⟨hd, rfl⟩ := h
  intro p l e R s m args below meth c H locs cells slots MC MS ls hC hB hR hS hl hL hst
  have hSt := hC.2.2.2.2.2.2.2.2.2.2
  have hZ := hSt.2.2.2.1.2.1 _ hs
  have hk := kk p l e R s m args below meth c H locs cells slots MC MS ls hC hB hR hS hl hL (xok_of (v := xp 51 i) rfl hst)
  intro T hT X0
  obtain ⟨t, a1, b1⟩ := hk T hT X0
  exact ⟨t, X0.ldcStringW hC.1 hC.2.2.2.2.1 (text := tx) (a := w.1 51 i) hZ.1 hZ.2 (g := F0 m pc ls (st.map (xc w.1))) rfl (by rw [hC.2.1]; exact hd) t a1, b1⟩
def xmin (a b : Int) : Int := if b < a then b else a
def xmax (a b : Int) : Int := if a < b then b else a
theorem xa_min {a b : Int} {idx : Nat} (h : xd mi.2.1 pc (.invokestatic idx) 3 pc') (hw1 : Cond.methodLink mi.1 idx Lib.Math.min.name ∈ xtb) (hw2 : Cond.static Lib.Math.min.name ∈ xtb) (hw3 : Cond.initialized "java/lang/Math" ∈ xtb) (hw4 : Cond.code Lib.Math.min.name Lib.Math.min.code 2 (some .int) ∈ xtb) (hfr : 1 ≤ mi.2.2.2.2.2.1) (hlo : (st.map fun v => if xcat2 v then 2 else 1).sum + 13 ≤ mi.2.2.2.2.2.2) (hj : st.all (fun v => !xjk v) = true)
    (ha : xr a) (hb : xr b) (kk : X w mi TG k n pc' L (xi (xmin a b) :: st) S) : X w mi TG k n pc L (xi b :: xi a :: st) S := by
  obtain ⟨hd, rfl⟩ := h
  intro p l e R s m args below meth c H locs cells slots MC MS ls hC hB hR hS hl hL hst
  have h9 := kk p l e R s m args below meth c H locs cells slots MC MS ls hC hB hR hS hl hL (xok_of (v := xi (xmin a b)) trivial (xok_cons (xok_cons hst).2).2)
  have e9 : xc w.1 (xi (xmin a b)) = Value.int (if Int32.ofInt b < Int32.ofInt a then Int32.ofInt b else Int32.ofInt a) := by
    refine congrArg Value.int ?_
    unfold xmin
    by_cases q : b < a
    · rw [if_pos q, if_pos ((xn_lt hb ha).mpr q)]
    · rw [if_neg q, if_neg (fun z => q ((xn_lt hb ha).mp z))]
  rw [List.map_cons, e9] at h9
  have hts := hC.2.2.2.2.2.1
  refine va_mmin hC.1 hC.2.1 (by rw [hl.2.1]; exact hC.2.2.2.1) hC.2.2.2.2.1 (hts _ hw1) (hts _ hw2) (hts _ hw3) (hts _ hw4) (Nat.le_trans hfr hC.2.2.2.2.2.2.2.2.1.1) (Nat.le_trans ?_ hC.2.2.2.2.2.2.2.2.1.2) (by omega) (by omega) hd h9
  rw [List.map_map]
  have e8 : ∀ v ∈ st, ((fun v => v.category) ∘ xc w.1) v = if xcat2 v then 2 else 1 := by
    intro v hv
    have hjv : xjk v = false := by simpa using List.all_eq_true.mp hj v hv
    show (xc w.1 v).category = _
    by_cases q : xcat2 v = true
    · rw [if_pos q]; exact (xcat_iff hjv).mpr q
    · rw [if_neg q]; exact xn_cat1 (by simpa using q)
  rw [List.map_congr_left e8]
  exact hlo
theorem xa_max {a b : Int} {idx : Nat} (h : xd mi.2.1 pc (.invokestatic idx) 3 pc') (hw1 : Cond.methodLink mi.1 idx Lib.Math.max.name ∈ xtb) (hw2 : Cond.static Lib.Math.max.name ∈ xtb) (hw3 : Cond.initialized "java/lang/Math" ∈ xtb) (hw4 : Cond.code Lib.Math.max.name Lib.Math.max.code 2 (some .int) ∈ xtb) (hfr : 1 ≤ mi.2.2.2.2.2.1) (hlo : (st.map fun v => if xcat2 v then 2 else 1).sum + 13 ≤ mi.2.2.2.2.2.2) (hj : st.all (fun v => !xjk v) = true)
    (ha : xr a) (hb : xr b) (kk : X w mi TG k n pc' L (xi (xmax a b) :: st) S) : X w mi TG k n pc L (xi b :: xi a :: st) S := by
  obtain ⟨hd, rfl⟩ := h
  intro p l e R s m args below meth c H locs cells slots MC MS ls hC hB hR hS hl hL hst
  have h9 := kk p l e R s m args below meth c H locs cells slots MC MS ls hC hB hR hS hl hL (xok_of (v := xi (xmax a b)) trivial (xok_cons (xok_cons hst).2).2)
  have e9 : xc w.1 (xi (xmax a b)) = Value.int (if Int32.ofInt a < Int32.ofInt b then Int32.ofInt b else Int32.ofInt a) := by
    refine congrArg Value.int ?_
    unfold xmax
    by_cases q : a < b
    · rw [if_pos q, if_pos ((xn_lt ha hb).mpr q)]
    · rw [if_neg q, if_neg (fun z => q ((xn_lt ha hb).mp z))]
  rw [List.map_cons, e9] at h9
  have hts := hC.2.2.2.2.2.1
  refine va_mmax hC.1 hC.2.1 (by rw [hl.2.1]; exact hC.2.2.2.1) hC.2.2.2.2.1 (hts _ hw1) (hts _ hw2) (hts _ hw3) (hts _ hw4) (Nat.le_trans hfr hC.2.2.2.2.2.2.2.2.1.1) (Nat.le_trans ?_ hC.2.2.2.2.2.2.2.2.1.2) (by omega) (by omega) hd h9
  rw [List.map_map]
  have e8 : ∀ v ∈ st, ((fun v => v.category) ∘ xc w.1) v = if xcat2 v then 2 else 1 := by
    intro v hv
    have hjv : xjk v = false := by simpa using List.all_eq_true.mp hj v hv
    show (xc w.1 v).category = _
    by_cases q : xcat2 v = true
    · rw [if_pos q]; exact (xcat_iff hjv).mpr q
    · rw [if_neg q]; exact xn_cat1 (by simpa using q)
  rw [List.map_congr_left e8]
  exact hlo
/-! switches -/
theorem xa_tabIn {a dflt lo hi off : Int} {offs : Array Int} {len tgt : Nat} (h : xd mi.2.1 pc (.tableswitch dflt lo hi offs) len pc') (ha : xr a) (h1 : lo ≤ a) (h2 : a ≤ hi) (ho : offs[(a - lo).toNat]? = some off) (ht : (pc : Int) + off = (tgt : Int)) (kk : X w mi TG k n tgt L st S) : X w mi TG k n pc L (xi a :: st) S := by
  obtain ⟨hd, rfl⟩ := h
  intro p l e R s m args below meth c H locs cells slots MC MS ls hC hB hR hS hl hL hst
  have e9 := xn_ti ha
  exact lv_tableIn hC.1 hC.2.1 hd (by rw [e9]; omega) (by rw [e9]; omega) (by rw [e9]; exact ho) ht (kk p l e R s m args below meth c H locs cells slots MC MS ls hC hB hR hS hl hL (xok_cons hst).2)
theorem xa_tabOut {a dflt lo hi : Int} {offs : Array Int} {len tgt : Nat} (h : xd mi.2.1 pc (.tableswitch dflt lo hi offs) len pc') (ha : xr a) (h1 : a < lo ∨ hi < a) (ht : (pc : Int) + dflt = (tgt : Int)) (kk : X w mi TG k n tgt L st S) : X w mi TG k n pc L (xi a :: st) S := by
  obtain ⟨hd, rfl⟩ := h
  intro p l e R s m args below meth c H locs cells slots MC MS ls hC hB hR hS hl hL hst
  have e9 := xn_ti ha
  exact lv_tableOut hC.1 hC.2.1 hd (by rw [e9]; exact h1) ht (kk p l e R s m args below meth c H locs cells slots MC MS ls hC hB hR hS hl hL (xok_cons hst).2)
/-! the script -/
theorem xa_sld {a : Int} (h : xd mi.2.1 pc .iaload 1 pc') (ha : 0 ≤ a ∧ a < w.2.2.2.2.2.1) (hN : w.2.2.2.2.2.1 < 2147483648) (kk : X w mi TG k n pc' L (xi (w.2.2.2.2.2.2 a.toNat).toInt :: st) S) : X w mi TG k n pc L (xi a :: xp 52 0 :: st) S := by
  obtain ⟨hd, rfl⟩ := h
  intro p l e R s m args below meth c H locs cells slots MC MS ls hC hB hR hS hl hL hst
  have hSt := hC.2.2.2.2.2.2.2.2.2.2
  have h9 := kk p l e R s m args below meth c H locs cells slots MC MS ls hC hB hR hS hl hL (xok_of (v := xi (w.2.2.2.2.2.2 a.toNat).toInt) trivial (xok_cons (xok_cons hst).2).2)
  rw [List.map_cons, show xc w.1 (xi (w.2.2.2.2.2.2 a.toNat).toInt) = Value.int (w.2.2.2.2.2.2 a.toNat) from congrArg Value.int (Int32.ofInt_toInt _), ← xn_nat (a := a) (by omega) ha.1] at h9
  exact va_sld (A := xfr w) (xs := w.2.2.2.2.2.2) hC.1 hC.2.1 hSt.2.2.1.2.1 (Nat.lt_of_lt_of_le hSt.2.2.1.2.2 hSt.2.1) (Nat.not_le.mpr hSt.2.2.1.2.2) hS (xn_in ha hN) hd h9
theorem xa_slen (h : xd mi.2.1 pc .arraylength 1 pc') (kk : X w mi TG k n pc' L (xi w.2.2.2.2.2.1 :: st) S) : X w mi TG k n pc L (xp 52 0 :: st) S := by
  obtain ⟨hd, rfl⟩ := h
  intro p l e R s m args below meth c H locs cells slots MC MS ls hC hB hR hS hl hL hst
  have hSt := hC.2.2.2.2.2.2.2.2.2.2
  have h9 := kk p l e R s m args below meth c H locs cells slots MC MS ls hC hB hR hS hl hL (xok_of (v := xi (w.2.2.2.2.2.1 : Int)) trivial (xok_cons hst).2)
  rw [List.map_cons, show xc w.1 (xi (w.2.2.2.2.2.1 : Int)) = Value.int (Int32.ofNat w.2.2.2.2.2.1) from congrArg Value.int Int32.ofInt_eq_ofNat] at h9
  exact va_slen (A := xfr w) (xs := w.2.2.2.2.2.2) hC.1 hC.2.1 hSt.2.2.1.2.1 (Nat.lt_of_lt_of_le hSt.2.2.1.2.2 hSt.2.1) (Nat.not_le.mpr hSt.2.2.1.2.2) hS hd h9
/-! floating point -/
theorem xa_i2d {a : Int} (h : xd mi.2.1 pc .i2d 1 pc') (kk : X w mi TG k n pc' L (xv (.double (FP.i2d (Int32.ofInt a))) :: st) S) : X w mi TG k n pc L (xi a :: st) S := by
  obtain ⟨hd, rfl⟩ := h
  intro p l e R s m args below meth c H locs cells slots MC MS ls hC hB hR hS hl hL hst
  exact lv_i2d hC.1 hC.2.1 hd (kk p l e R s m args below meth c H locs cells slots MC MS ls hC hB hR hS hl hL (xok_of (v := xv (.double _)) trivial (xok_cons hst).2))
theorem xa_i2f {a : Int} (h : xd mi.2.1 pc .i2f 1 pc') (kk : X w mi TG k n pc' L (xv (.float (FP.i2f (Int32.ofInt a))) :: st) S) : X w mi TG k n pc L (xi a :: st) S := by
  obtain ⟨hd, rfl⟩ := h
  intro p l e R s m args below meth c H locs cells slots MC MS ls hC hB hR hS hl hL hst
  exact lv_i2f hC.1 hC.2.1 hd (kk p l e R s m args below meth c H locs cells slots MC MS ls hC hB hR hS hl hL (xok_of (v := xv (.float _)) trivial (xok_cons hst).2))
theorem xa_dconst0 (h : xd mi.2.1 pc (.dconst 0) 1 pc') (kk : X w mi TG k n pc' L (xv (.double 0) :: st) S) : X w mi TG k n pc L st S := by
  obtain ⟨hd, rfl⟩ := h
  intro p l e R s m args below meth c H locs cells slots MC MS ls hC hB hR hS hl hL hst
  exact lv_dconst0 hC.1 hC.2.1 hd (kk p l e R s m args below meth c H locs cells slots MC MS ls hC hB hR hS hl hL (xok_of (v := xv (.double 0)) trivial hst))
theorem xa_ddiv {a b : UInt64} (h : xd mi.2.1 pc .ddiv 1 pc') (hv : vf_n64 (FP.ddiv a b)) (kk : X w mi TG k n pc' L (xv (.double (FP.ddiv a b)) :: st) S) : X w mi TG k n pc L (xv (.double b) :: xv (.double a) :: st) S := by
  obtain ⟨hd, rfl⟩ := h
  intro p l e R s m args below meth c H locs cells slots MC MS ls hC hB hR hS hl hL hst
  exact lv_ddiv hC.1 hC.2.1 hd hv (kk p l e R s m args below meth c H locs cells slots MC MS ls hC hB hR hS hl hL (xok_of (v := xv (.double _)) trivial (xok_cons (xok_cons hst).2).2))
theorem xa_dadd {a b : UInt64} (h : xd mi.2.1 pc .dadd 1 pc') (hv : vf_n64 (FP.dadd a b)) (kk : X w mi TG k n pc' L (xv (.double (FP.dadd a b)) :: st) S) : X w mi TG k n pc L (xv (.double b) :: xv (.double a) :: st) S := by
  obtain ⟨hd, rfl⟩ := h
  intro p l e R s m args below meth c H locs cells slots MC MS ls hC hB hR hS hl hL hst
  exact lv_dadd hC.1 hC.2.1 hd hv (kk p l e R s m args below meth c H locs cells slots MC MS ls hC hB hR hS hl hL (xok_of (v := xv (.double _)) trivial (xok_cons (xok_cons hst).2).2))
theorem xa_fdiv {a b : UInt32} (h : xd mi.2.1 pc .fdiv 1 pc') (hv : vf_n32 (FP.fdiv a b)) (kk : X w mi TG k n pc' L (xv (.float (FP.fdiv a b)) :: st) S) : X w mi TG k n pc L (xv (.float b) :: xv (.float a) :: st) S := by
  obtain ⟨hd, rfl⟩ := h
  intro p l e R s m args below meth c H locs cells slots MC MS ls hC hB hR hS hl hL hst
  exact lv_fdiv hC.1 hC.2.1 hd hv (kk p l e R s m args below meth c H locs cells slots MC MS ls hC hB hR hS hl hL (xok_of (v := xv (.float _)) trivial (xok_cons (xok_cons hst).2).2))
theorem xa_f2d {a : UInt32} (h : xd mi.2.1 pc .f2d 1 pc') (hv : vf_n64 (FP.f2d a)) (kk : X w mi TG k n pc' L (xv (.double (FP.f2d a)) :: st) S) : X w mi TG k n pc L (xv (.float a) :: st) S := by
  obtain ⟨hd, rfl⟩ := h
  intro p l e R s m args below meth c H locs cells slots MC MS ls hC hB hR hS hl hL hst
  exact lv_f2d hC.1 hC.2.1 hd hv (kk p l e R s m args below meth c H locs cells slots MC MS ls hC hB hR hS hl hL (xok_of (v := xv (.double _)) trivial (xok_cons hst).2))
theorem xa_ldcf {index : Nat} {v : UInt32} (h : xd mi.2.1 pc (.ldc index) 2 pc') (hw : Cond.constantFloat mi.1 index v ∈ xtb) (kk : X w mi TG k n pc' L (xv (.float v) :: st) S) : X w mi TG k n pc L st S := by
  obtain ⟨hd, rfl⟩ := h
  intro p l e R s m args below meth c H locs cells slots MC MS ls hC hB hR hS hl hL hst
  exact lv_ldcf hC.1 hC.2.1 hC.2.2.2.2.1 (hC.2.2.2.2.2.1 _ hw) hd (kk p l e R s m args below meth c H locs cells slots MC MS ls hC hB hR hS hl hL (xok_of (v := xv (.float v)) trivial hst))
theorem xa_dcmp {a b : UInt64} {op : CmpOp} {z : Int} (h : xd mi.2.1 pc (.dcmp op) 1 pc') (hz : Op.cmpValue (FP.dcmp a b) op = Int32.ofInt z) (kk : X w mi TG k n pc' L (xi z :: st) S) : X w mi TG k n pc L (xv (.double b) :: xv (.double a) :: st) S := by
  obtain ⟨hd, rfl⟩ := h
  intro p l e R s m args below meth c H locs cells slots MC MS ls hC hB hR hS hl hL hst
  have h9 := kk p l e R s m args below meth c H locs cells slots MC MS ls hC hB hR hS hl hL (xok_of (v := xi z) trivial (xok_cons (xok_cons hst).2).2)
  rw [List.map_cons, show xc w.1 (xi z) = Value.int (Op.cmpValue (FP.dcmp a b) op) from congrArg Value.int hz.symm] at h9
  exact lv_dcmp hC.1 hC.2.1 hd h9
end XM
