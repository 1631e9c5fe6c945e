/-! the constructors -/
/-! the constructors: Process, Promise, Sales, Timeline -/
theorem Z.room {w : xW} {qq : Prop} {mi : xM} {TG : xT} {k n k1 n1 pc : Nat} {L st : List xV} {D : zD} {E : zE} {z : Nat} (h : Z w qq mi TG k1 n1 pc L st D E z) (hk : k1 ≤ k ∧ n1 ≤ n) : Z w qq mi TG k n pc L st D E z := fun p l e R s m args below meth c H locs cells slots MC MS ls hC hB => h p l e R s m args below meth c H locs cells slots MC MS ls hC (by omega)
theorem zw_3 {a b c : Cond} (ha : a ∈ xtb) (hb : b ∈ xtb) (hc : c ∈ xtb) : ∀ u ∈ [a, b, c], u ∈ xtb := by
  intro u hu
  rcases List.mem_cons.mp hu with rfl | hu
  · exact ha
  · rcases List.mem_cons.mp hu with rfl | hu
    · exact hb
    · rw [List.mem_singleton.mp hu]; exact hc
theorem zw_4 {a b c d : Cond} (ha : a ∈ xtb) (hb : b ∈ xtb) (hc : c ∈ xtb) (hd : d ∈ xtb) : ∀ u ∈ [a, b, c, d], u ∈ xtb := by
  intro u hu
  rcases List.mem_cons.mp hu with rfl | hu
  · exact ha
  · exact zw_3 hb hc hd u hu
theorem zw_o1 : Cond.instanceMethod objectInit ∈ xtb := xtb_in (i := 24) (by decide +kernel) (by decide +kernel)
theorem zw_o2 : Cond.code objectInit ⟨#[0xb1]⟩ 1 none ∈ xtb := xtb_in (i := 25) (by decide +kernel) (by decide +kernel)
theorem zw_objX0 : ∀ u ∈ [Cond.methodLink RX0 3 objectInit, .instanceMethod objectInit, .code objectInit ⟨#[0xb1]⟩ 1 none], u ∈ xtb := zw_3 (xtb_in (i := 162) (by decide +kernel) (by decide +kernel)) zw_o1 zw_o2
theorem zi_X0 : Cond.instanceMethod yX0_init ∈ xtb := xtb_in (i := 160) (by decide +kernel) (by decide +kernel)
theorem zc_X0 : Cond.code yX0_init mX0_init.2.1 mX0_init.2.2.1 mX0_init.2.2.2.1 ∈ xtb := xtb_in (i := 161) (by decide +kernel) (by decide +kernel)
theorem zd_X0 : (yX0_init).cls ≠ "java/lang/invoke/MethodHandle" ∧ (yX0_init).cls ≠ "java/lang/invoke/VarHandle" ∧ (parseMethodDescriptor (yX0_init).desc).map (fun d => d.parameters.length) = some 0 := by decide +kernel
theorem zw_objX1 : ∀ u ∈ [Cond.methodLink RX1 3 objectInit, .instanceMethod objectInit, .code objectInit ⟨#[0xb1]⟩ 1 none], u ∈ xtb := zw_3 (xtb_in (i := 50) (by decide +kernel) (by decide +kernel)) zw_o1 zw_o2
theorem zi_X1 : Cond.instanceMethod yX1_init ∈ xtb := xtb_in (i := 48) (by decide +kernel) (by decide +kernel)
theorem zc_X1 : Cond.code yX1_init mX1_init.2.1 mX1_init.2.2.1 mX1_init.2.2.2.1 ∈ xtb := xtb_in (i := 49) (by decide +kernel) (by decide +kernel)
theorem zd_X1 : (yX1_init).cls ≠ "java/lang/invoke/MethodHandle" ∧ (yX1_init).cls ≠ "java/lang/invoke/VarHandle" ∧ (parseMethodDescriptor (yX1_init).desc).map (fun d => d.parameters.length) = some 0 := by decide +kernel
theorem zw_objX2 : ∀ u ∈ [Cond.methodLink RX2 3 objectInit, .instanceMethod objectInit, .code objectInit ⟨#[0xb1]⟩ 1 none], u ∈ xtb := zw_3 (xtb_in (i := 145) (by decide +kernel) (by decide +kernel)) zw_o1 zw_o2
theorem zi_X2 : Cond.instanceMethod yX2_init ∈ xtb := xtb_in (i := 143) (by decide +kernel) (by decide +kernel)
theorem zc_X2 : Cond.code yX2_init mX2_init.2.1 mX2_init.2.2.1 mX2_init.2.2.2.1 ∈ xtb := xtb_in (i := 144) (by decide +kernel) (by decide +kernel)
theorem zd_X2 : (yX2_init).cls ≠ "java/lang/invoke/MethodHandle" ∧ (yX2_init).cls ≠ "java/lang/invoke/VarHandle" ∧ (parseMethodDescriptor (yX2_init).desc).map (fun d => d.parameters.length) = some 0 := by decide +kernel
theorem zw_objX3 : ∀ u ∈ [Cond.methodLink RX3 3 objectInit, .instanceMethod objectInit, .code objectInit ⟨#[0xb1]⟩ 1 none], u ∈ xtb := zw_3 (xtb_in (i := 269) (by decide +kernel) (by decide +kernel)) zw_o1 zw_o2
theorem zi_X3 : Cond.instanceMethod yX3_init ∈ xtb := xtb_in (i := 267) (by decide +kernel) (by decide +kernel)
theorem zc_X3 : Cond.code yX3_init mX3_init.2.1 mX3_init.2.2.1 mX3_init.2.2.2.1 ∈ xtb := xtb_in (i := 268) (by decide +kernel) (by decide +kernel)
theorem zd_X3 : (yX3_init).cls ≠ "java/lang/invoke/MethodHandle" ∧ (yX3_init).cls ≠ "java/lang/invoke/VarHandle" ∧ (parseMethodDescriptor (yX3_init).desc).map (fun d => d.parameters.length) = some 0 := by decide +kernel
theorem zw_objX4 : ∀ u ∈ [Cond.methodLink RX4 3 objectInit, .instanceMethod objectInit, .code objectInit ⟨#[0xb1]⟩ 1 none], u ∈ xtb := zw_3 (xtb_in (i := 37) (by decide +kernel) (by decide +kernel)) zw_o1 zw_o2
theorem zi_X4 : Cond.instanceMethod yX4_init ∈ xtb := xtb_in (i := 35) (by decide +kernel) (by decide +kernel)
theorem zc_X4 : Cond.code yX4_init mX4_init.2.1 mX4_init.2.2.1 mX4_init.2.2.2.1 ∈ xtb := xtb_in (i := 36) (by decide +kernel) (by decide +kernel)
theorem zd_X4 : (yX4_init).cls ≠ "java/lang/invoke/MethodHandle" ∧ (yX4_init).cls ≠ "java/lang/invoke/VarHandle" ∧ (parseMethodDescriptor (yX4_init).desc).map (fun d => d.parameters.length) = some 0 := by decide +kernel
theorem zw_objX5 : ∀ u ∈ [Cond.methodLink RX5 3 objectInit, .instanceMethod objectInit, .code objectInit ⟨#[0xb1]⟩ 1 none], u ∈ xtb := zw_3 (xtb_in (i := 43) (by decide +kernel) (by decide +kernel)) zw_o1 zw_o2
theorem zi_X5 : Cond.instanceMethod yX5_init ∈ xtb := xtb_in (i := 41) (by decide +kernel) (by decide +kernel)
theorem zc_X5 : Cond.code yX5_init mX5_init.2.1 mX5_init.2.2.1 mX5_init.2.2.2.1 ∈ xtb := xtb_in (i := 42) (by decide +kernel) (by decide +kernel)
theorem zd_X5 : (yX5_init).cls ≠ "java/lang/invoke/MethodHandle" ∧ (yX5_init).cls ≠ "java/lang/invoke/VarHandle" ∧ (parseMethodDescriptor (yX5_init).desc).map (fun d => d.parameters.length) = some 0 := by decide +kernel
theorem zw_objX7 : ∀ u ∈ [Cond.methodLink RX7 1 objectInit, .instanceMethod objectInit, .code objectInit ⟨#[0xb1]⟩ 1 none], u ∈ xtb := zw_3 (xtb_in (i := 31) (by decide +kernel) (by decide +kernel)) zw_o1 zw_o2
theorem zi_X7 : Cond.instanceMethod yX7_init ∈ xtb := xtb_in (i := 29) (by decide +kernel) (by decide +kernel)
theorem zc_X7 : Cond.code yX7_init mX7_init.2.1 mX7_init.2.2.1 mX7_init.2.2.2.1 ∈ xtb := xtb_in (i := 30) (by decide +kernel) (by decide +kernel)
theorem zd_X7 : (yX7_init).cls ≠ "java/lang/invoke/MethodHandle" ∧ (yX7_init).cls ≠ "java/lang/invoke/VarHandle" ∧ (parseMethodDescriptor (yX7_init).desc).map (fun d => d.parameters.length) = some 0 := by decide +kernel
theorem zw_objL : ∀ u ∈ [Cond.methodLink RL 1 objectInit, .instanceMethod objectInit, .code objectInit ⟨#[0xb1]⟩ 1 none], u ∈ xtb := zw_3 (xtb_in (i := 23) (by decide +kernel) (by decide +kernel)) zw_o1 zw_o2
theorem zi_L : Cond.instanceMethod yL_init ∈ xtb := xtb_in (i := 21) (by decide +kernel) (by decide +kernel)
theorem zc_L : Cond.code yL_init mL_init.2.1 mL_init.2.2.1 mL_init.2.2.2.1 ∈ xtb := xtb_in (i := 22) (by decide +kernel) (by decide +kernel)
theorem zd_L : (yL_init).cls ≠ "java/lang/invoke/MethodHandle" ∧ (yL_init).cls ≠ "java/lang/invoke/VarHandle" ∧ (parseMethodDescriptor (yL_init).desc).map (fun d => d.parameters.length) = some 0 := by decide +kernel
theorem k_X0_init {w : xW} {D : zD} {E : zE} {z j : Nat} : KZ w mX0_init yX0_init 0 0 [xp 4 j] D E z D E z := by
  refine KZ.of (qq := True) (fun _ => rfl) rfl rfl rfl rfl (Nat.le_of_ble_eq_true rfl) rfl ?_
  refine za_aloadN (i := 0) eX0_init_0 rfl rfl ?_
  refine za_obj eX0_init_1 zw_objX0 ⟨by decide, by decide⟩ ?_ rfl
  exact za_vret eX0_init_4 rfl
theorem k_X1_init {w : xW} {D : zD} {E : zE} {z j : Nat} : KZ w mX1_init yX1_init 0 0 [xp 10 j] D E z D E z := by
  refine KZ.of (qq := True) (fun _ => rfl) rfl rfl rfl rfl (Nat.le_of_ble_eq_true rfl) rfl ?_
  refine za_aloadN (i := 0) eX1_init_0 rfl rfl ?_
  refine za_obj eX1_init_1 zw_objX1 ⟨by decide, by decide⟩ ?_ rfl
  exact za_vret eX1_init_4 rfl
/-- Sales: its counts -/
def zSa (w : xW) (s : Nat) (E : zE) : zE := fun k j => if k = 25 ∧ j = s then .inl (w.2.2.1 0, (64, .inl fun _ => 0)) else if k = 5 ∧ j = s then .inr (2, [.ref (w.1 25 s), .int 0, .int 0]) else E k j
theorem k_X2_init {w : xW} {D : zD} {E : zE} {z s : Nat} (hm : (5, s) ∈ D) (he : E 5 s = .inr (2, [.null, .int 0, .int 0])) (hn : (25, s) ∉ D) (hz : w.1 25 s = z) (hs : s < 5) : KZ w mX2_init yX2_init 1 64 [xp 5 s] D E z (D ++ [(25, s)]) (zSa w s E) (z + 1) := by
  refine KZ.of (qq := True) (fun _ => rfl) rfl rfl rfl rfl (Nat.le_of_ble_eq_true rfl) rfl ?_
  refine za_aloadN (i := 0) eX2_init_0 rfl rfl ?_
  refine za_obj eX2_init_1 zw_objX2 ⟨by decide, by decide⟩ ?_ rfl
  refine za_aloadN (i := 0) eX2_init_4 rfl rfl ?_
  refine za_bipush eX2_init_5 (by decide) ?_
  refine za_newa (x := 25) (y := s) (N := 64) (t := 0) (ty := .int) (a0 := (64, .inl fun _ => 0)) eX2_init_7 (xtb_in (i := 157) (by decide +kernel) (by decide +kernel)) rfl rfl (fun _ _ => rfl) (fun c => vp_cell_i c 64 _) rfl (by decide) (Nat.le_of_ble_eq_true rfl) (by unfold xval; simp; omega) hz hn ⟨Nat.le_refl _, Nat.le_refl _⟩ ?_
  refine za_putF (T := TX2) (N := 3) (C := RX2) (ci := 2) (f := 0) (ty0 := tyX2) (ty := .array .int) (u := xp 25 s) (fs := [.null, .int 0, .int 0]) eX2_init_9 lRX2_11 xin_X2 tyX2_ok nmX2 rfl (by decide) (List.mem_append_left _ hm) (by unfold zup; rw [if_neg (by omega)]; exact he) rfl trivial rfl rfl rfl rfl (by decide) ?_
  refine Z.eqv rfl (fun q hq => ?_) rfl (za_vret eX2_init_12 rfl)
  show zSa w s E q.1 q.2 = zup (zup E 25 s _) 5 s _ q.1 q.2
  unfold zSa zup
  by_cases c1 : q.1 = 25 ∧ q.2 = s
  · rw [if_pos c1, if_neg (by omega), if_pos c1]
  · rw [if_neg c1]
    by_cases c2 : q.1 = 5 ∧ q.2 = s
    · rw [if_pos c2, if_pos c2]; rfl
    · rw [if_neg c2, if_neg c2, if_neg c1]
