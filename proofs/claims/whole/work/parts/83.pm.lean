/-! a promise in both texts -/
/-- the class's `promise` statement but for its semicolon -/
def rdPmS (n N : Nat) (C : xS) : Bool × xS := if isW 4 C then bnd (rdPrm n N C) (fun S1 => if isW 5 S1 then rdPri n S1 else (true, S1)) else (false, flS 1 C)
set_option maxHeartbeats 400000 in
theorem z_X8_require {w : xW} {S : xS} {B : String → xS → Prop} {A : xS → Prop} {v c : Int} (hv : v = 0 ∨ v = 1) (e : ¬ S 30 0 20 = 0) (hq : A S) : Kv w mX8_require yX8_require 0 0 [xp 30 0, xi v, xi c] S A B := by
  refine K.of rfl rfl rfl rfl (Nat.le_of_ble_eq_true rfl) rfl ?_
  refine xs_iload_1 eX8_require_0 ?_
  refine xa_if_ne (tgt := 24) eX8_require_1 (by decide) (by omega) (fun c1 => ?_) (fun c1 => ?_)
  · exact xa_vret eX8_require_24 rfl ⟨rfl, hq⟩
  · refine xs_aload_0 eX8_require_4 ?_
    refine gr_X8_20 eX8_require_5 lRX8_317 (fun r5 => ?_)
    try simp (decide := true) only [up_app, if_false, and_false, false_and, and_true, true_and] at r5 ⊢
    refine xa_if_ne (tgt := 24) eX8_require_8 (by decide) (by omega) (fun c8 => ?_) (fun c8 => ?_)
    · exact xa_vret eX8_require_24 rfl ⟨rfl, hq⟩
    · exact absurd c8 e
