/-! strings: length and charAt -/
section XS9
variable {w : xW} {mi mi' : xM} {TG : xT} {k n pc pc' idx : Nat} {L st : List xV} {S : xS} {y : MethodName}
theorem xbi_T0 {z : Nat} (h : xd mi.2.1 pc (.invokevirtual idx) 3 pc') (hw : ∀ u ∈ [Cond.methodLink mi.1 idx y, .instanceMethod y, .selects y.cls y y, .initialized y.cls, .code y mi'.2.1 mi'.2.2.1 mi'.2.2.2.1], u ∈ xtb) (hh : mi'.2.2.2.2.1 = []) (hyc : y.cls = "java/lang/String") (hcl : xcl mi mi' y 0) (hz : z < 6) (hsum : (st.map fun v => if xcat2 v then 2 else 1).sum ≤ 8) (hj : st.all (fun v => !xjk v) = true) (hK : Ki w mi' y 0 0 [xp 51 z] S (fun a S' => X w mi TG k n pc' L (xi a :: st) S') (fun E S' => XT w mi TG k n pc L st E S')) : X w mi TG k n pc L (xp 51 z :: st) S := xa_callT (k1 := 0) (n1 := 0) (as := []) hz hyc h hw hh hcl hsum ⟨Nat.zero_le _, Nat.zero_le _⟩ hK (fun v S' hh9 => by obtain ⟨a, h1, h2⟩ := hh9; subst h1; exact h2) (fun E S' hh9 => hh9) hj
theorem xbi_T1 {z : Nat} {b1 : xV} (h : xd mi.2.1 pc (.invokevirtual idx) 3 pc') (hw : ∀ u ∈ [Cond.methodLink mi.1 idx y, .instanceMethod y, .selects y.cls y y, .initialized y.cls, .code y mi'.2.1 mi'.2.2.1 mi'.2.2.2.1], u ∈ xtb) (hh : mi'.2.2.2.2.1 = []) (hyc : y.cls = "java/lang/String") (hcl : xcl mi mi' y 1) (hz : z < 6) (hsum : (st.map fun v => if xcat2 v then 2 else 1).sum ≤ 8) (hj : st.all (fun v => !xjk v) = true) (hK : Ki w mi' y 0 0 [xp 51 z, b1] S (fun a S' => X w mi TG k n pc' L (xi a :: st) S') (fun E S' => XT w mi TG k n pc L st E S')) : X w mi TG k n pc L (b1 :: xp 51 z :: st) S := xa_callT (k1 := 0) (n1 := 0) (as := [b1]) hz hyc h hw hh hcl hsum ⟨Nat.zero_le _, Nat.zero_le _⟩ hK (fun v S' hh9 => by obtain ⟨a, h1, h2⟩ := hh9; subst h1; exact h2) (fun E S' hh9 => hh9) hj
theorem xbi_C2 {b1 b2 : xV} (h : xd mi.2.1 pc (.invokestatic idx) 3 pc') (hw : ∀ u ∈ [Cond.methodLink mi.1 idx y, .static y, .initialized y.cls, .code y mi'.2.1 mi'.2.2.1 mi'.2.2.2.1], u ∈ xtb) (hh : mi'.2.2.2.2.1 = []) (hcl : xcl mi mi' y 2) (hsum : (st.map fun v => if xcat2 v then 2 else 1).sum ≤ 8) (hj : st.all (fun v => !xjk v) = true) (hK : Ki w mi' y 0 0 [b1, b2] S (fun a S' => X w mi TG k n pc' L (xi a :: st) S') (fun E S' => XT w mi TG k n pc L st E S')) : X w mi TG k n pc L (b2 :: b1 :: st) S := xa_callC (k1 := 0) (n1 := 0) (as := [b1, b2]) h hw hh hcl hsum ⟨Nat.zero_le _, Nat.zero_le _⟩ hK (fun v S' hh9 => by obtain ⟨a, h1, h2⟩ := hh9; subst h1; exact h2) (fun E S' hh9 => hh9) hj
theorem xbv_C2 {b1 b2 : xV} (h : xd mi.2.1 pc (.invokestatic idx) 3 pc') (hw : ∀ u ∈ [Cond.methodLink mi.1 idx y, .static y, .initialized y.cls, .code y mi'.2.1 mi'.2.2.1 mi'.2.2.2.1], u ∈ xtb) (hh : mi'.2.2.2.2.1 = []) (hcl : xcl mi mi' y 2) (hsum : (st.map fun v => if xcat2 v then 2 else 1).sum ≤ 8) (hj : st.all (fun v => !xjk v) = true) (hK : Kv w mi' y 0 0 [b1, b2] S (fun S' => X w mi TG k n pc' L st S') (fun E S' => XT w mi TG k n pc L st E S')) : X w mi TG k n pc L (b2 :: b1 :: st) S := xa_callC (k1 := 0) (n1 := 0) (as := [b1, b2]) h hw hh hcl hsum ⟨Nat.zero_le _, Nat.zero_le _⟩ hK (fun v S' hh9 => by obtain ⟨h1, h2⟩ := hh9; subst h1; exact h2) (fun E S' hh9 => hh9) hj
theorem xbi_C3 {b1 b2 b3 : xV} (h : xd mi.2.1 pc (.invokestatic idx) 3 pc') (hw : ∀ u ∈ [Cond.methodLink mi.1 idx y, .static y, .initialized y.cls, .code y mi'.2.1 mi'.2.2.1 mi'.2.2.2.1], u ∈ xtb) (hh : mi'.2.2.2.2.1 = []) (hcl : xcl mi mi' y 3) (hsum : (st.map fun v => if xcat2 v then 2 else 1).sum ≤ 8) (hj : st.all (fun v => !xjk v) = true) (hK : Ki w mi' y 0 0 [b1, b2, b3] S (fun a S' => X w mi TG k n pc' L (xi a :: st) S') (fun E S' => XT w mi TG k n pc L st E S')) : X w mi TG k n pc L (b3 :: b2 :: b1 :: st) S := xa_callC (k1 := 0) (n1 := 0) (as := [b1, b2, b3]) h hw hh hcl hsum ⟨Nat.zero_le _, Nat.zero_le _⟩ hK (fun v S' hh9 => by obtain ⟨a, h1, h2⟩ := hh9; subst h1; exact h2) (fun E S' hh9 => hh9) hj
end XS9
def xchr (i j : Nat) : Int := ((xsbyt.getD i []).getD j 0).toInt
theorem xchr_ok : ∀ i, i < 6 → ∀ j, j < xslen.getD i 0 → (Int32.ofInt (xchr i j) &&& Int32.ofInt 255).toInt = xchr i j ∧ ((Int32.ofInt (xchr i j)).toUInt32 % 65536).toInt32 = Int32.ofInt (xchr i j) ∧ narrow .char (.int (Int32.ofInt (xchr i j))) = .int (Int32.ofInt (xchr i j)) ∧ 97 ≤ xchr i j ∧ xchr i j ≤ 122 := by decide
theorem xslen_r : ∀ i, i < 6 → 1 ≤ xslen.getD i 0 ∧ xslen.getD i 0 ≤ 7 ∧ (Int32.ofInt ((xslen.getD i 0 : Nat) : Int) >>> (Int32.ofInt 0 &&& 31)).toInt = ((xslen.getD i 0 : Nat) : Int) := by decide
theorem k_Jcod {w : xW} {S : xS} {B : String → xS → Prop} {A : Int → xS → Prop} {i : Nat} (hi : i < 6) (hq : A 0 S) : Ki w mJcod yJ0_coder_7d493 0 0 [xp 51 i] S A B := by
  refine K.of rfl rfl rfl rfl (Nat.le_of_ble_eq_true rfl) rfl ?_
  refine xa_strS eJcod_0 lJ_cs ?_
  refine xa_if_eq (tgt := 13) eJcod_3 (by decide) (by decide) (fun c => absurd c (by decide)) (fun _ => ?_)
  refine xs_aload_0 eJcod_6 ?_
  refine xa_strC hi eJcod_7 lJ_coder ?_
  refine xa_goto (tgt := 14) eJcod_10 (by decide) ?_
  exact xa_nret eJcod_14 rfl (by decide) ⟨_, rfl, hq⟩
theorem k_Jlat {w : xW} {S : xS} {B : String → xS → Prop} {A : Int → xS → Prop} {i : Nat} (hi : i < 6) (hq : A 1 S) : Ki w mJlat yJ0_isLatin1_aae02 0 0 [xp 51 i] S A B := by
  refine K.of rfl rfl rfl rfl (Nat.le_of_ble_eq_true rfl) rfl ?_
  refine xa_strS eJlat_0 lJ_cs ?_
  refine xa_if_eq (tgt := 17) eJlat_3 (by decide) (by decide) (fun c => absurd c (by decide)) (fun _ => ?_)
  refine xs_aload_0 eJlat_6 ?_
  refine xa_strC hi eJlat_7 lJ_coder ?_
  refine xa_if_ne (tgt := 17) eJlat_10 (by decide) (by decide) (fun c => absurd rfl c) (fun _ => ?_)
  refine xa_iconst eJlat_13 ?_
  refine xa_goto (tgt := 18) eJlat_14 (by decide) ?_
  exact xa_zret eJlat_18 rfl (by decide) ⟨_, rfl, hq⟩
theorem k_Jlen {w : xW} {S : xS} {B : String → xS → Prop} {A : Int → xS → Prop} {i : Nat} (hi : i < 6) (hq : A ((xslen.getD i 0 : Nat) : Int) S) : Ki w mJlen yJ0_length_8abf5 0 0 [xp 51 i] S A B := by
  refine K.of rfl rfl rfl rfl (Nat.le_of_ble_eq_true rfl) rfl ?_
  refine xs_aload_0 eJlen_0 ?_
  refine xa_strV hi eJlen_1 lJ_value ?_
  refine xa_strL hi eJlen_4 ?_
  refine xs_aload_0 eJlen_5 ?_
  refine xbi_T0 (mi' := mJcod) (y := yJ0_coder_7d493) eJlen_6 (xw_5 lJ_335 wy_Jcod) rfl rfl ⟨wd_Jcod, by decide, by decide⟩ hi (Nat.le_of_ble_eq_true rfl) rfl (k_Jcod hi ?_)
  refine xa_ishr eJlen_9 ?_
  rw [(xslen_r i hi).2.2]
  exact xa_iret eJlen_10 rfl ⟨_, rfl, hq⟩
theorem k_JpreN {w : xW} {S : xS} {B : String → xS → Prop} {A : Int → xS → Prop} {a b : Int} (ha : xr a) (hb : xr b) (h : 0 ≤ a ∧ a < b) (hq : A a S) : Ki w mJpre yJ3_checkIndex_8e157 0 0 [xi a, xi b, xv .null] S A B := by
  refine K.of rfl rfl rfl rfl (Nat.le_of_ble_eq_true rfl) rfl ?_
  refine xs_iload_0 eJpre_0 ?_
  refine xa_if_lt (tgt := 9) eJpre_1 (by decide) ha (fun c => absurd c (by omega)) (fun _ => ?_)
  refine xs_iload_0 eJpre_4 ?_
  refine xs_iload_1 eJpre_5 ?_
  refine xa_icmp_lt (tgt := 16) eJpre_6 (by decide) ha hb (fun _ => ?_) (fun c => absurd c (by omega))
  refine xs_iload_0 eJpre_16 ?_
  exact xa_iret eJpre_17 rfl ⟨_, rfl, hq⟩
theorem k_JpreR {w : xW} {S : xS} {B : String → xS → Prop} {A : Int → xS → Prop} {a b : Int} {t : Nat} (ha : xr a) (hb : xr b) (h : 0 ≤ a ∧ a < b) (hq : A a S) : Ki w mJpre yJ3_checkIndex_8e157 0 0 [xi a, xi b, xv (.ref t)] S A B := by
  refine K.of rfl rfl rfl rfl (Nat.le_of_ble_eq_true rfl) rfl ?_
  refine xs_iload_0 eJpre_0 ?_
  refine xa_if_lt (tgt := 9) eJpre_1 (by decide) ha (fun c => absurd c (by omega)) (fun _ => ?_)
  refine xs_iload_0 eJpre_4 ?_
  refine xs_iload_1 eJpre_5 ?_
  refine xa_icmp_lt (tgt := 16) eJpre_6 (by decide) ha hb (fun _ => ?_) (fun c => absurd c (by omega))
  refine xs_iload_0 eJpre_16 ?_
  exact xa_iret eJpre_17 rfl ⟨_, rfl, hq⟩
theorem k_Jchk {w : xW} {S : xS} {B : String → xS → Prop} {A : xS → Prop} {a b : Int} (ha : xr a) (hb : xr b) (h : 0 ≤ a ∧ a < b) (hq : A S) : Kv w mJchk yJ0_checkIndex_df160 0 0 [xi a, xi b] S A B := by
  refine K.of rfl rfl rfl rfl (Nat.le_of_ble_eq_true rfl) rfl ?_
  refine xs_iload_0 eJchk_0 ?_
  refine xs_iload_1 eJchk_1 ?_
  refine xa_strF eJchk_2 lJ_fmt ?_ (fun t => ?_)
  · refine xbi_C3 (mi' := mJpre) (y := yJ3_checkIndex_8e157) eJchk_5 (xw_4 lJ_1059 wy_Jpre) rfl ⟨wd_Jpre, by decide, by decide⟩ (Nat.le_of_ble_eq_true rfl) rfl (k_JpreN ha hb h ?_)
    refine xa_pop eJchk_8 rfl ?_
    exact xa_vret eJchk_9 rfl ⟨rfl, hq⟩
  · refine xbi_C3 (mi' := mJpre) (y := yJ3_checkIndex_8e157) eJchk_5 (xw_4 lJ_1059 wy_Jpre) rfl ⟨wd_Jpre, by decide, by decide⟩ (Nat.le_of_ble_eq_true rfl) rfl (k_JpreR ha hb h ?_)
    refine xa_pop eJchk_8 rfl ?_
    exact xa_vret eJchk_9 rfl ⟨rfl, hq⟩
theorem k_Jlch {w : xW} {S : xS} {B : String → xS → Prop} {A : Int → xS → Prop} {i j : Nat} (hi : i < 6) (hj : j < xslen.getD i 0) (hq : A (xchr i j) S) : Ki w mJlch yJ1_charAt_3b067 0 0 [xv (.ref (w.2.2.2.2.1 i)), xi (j : Int)] S A B := by
  refine K.of rfl rfl rfl rfl (Nat.le_of_ble_eq_true rfl) rfl ?_
  have hl := xslen_r i hi
  have hc := xchr_ok i hi j hj
  refine xs_iload_1 eJlch_0 ?_
  refine xa_aloadR eJlch_1 rfl rfl ?_
  refine xa_strL hi eJlch_2 ?_
  refine xbv_C2 (mi' := mJchk) (y := yJ0_checkIndex_df160) eJlch_3 (xw_4 lJ_9 wy_Jchk) rfl ⟨wd_Jchk, by decide, by decide⟩ (Nat.le_of_ble_eq_true rfl) rfl (k_Jchk (by omega) (by omega) (by omega) ?_)
  refine xa_aloadR eJlch_6 rfl rfl ?_
  refine xs_iload_1 eJlch_7 ?_
  refine xa_strB hi eJlch_8 hj (by omega) ?_
  refine xa_sipush eJlch_9 (by decide) ?_
  refine xa_iand eJlch_12 ?_
  rw [show (Int32.ofInt ((xsbyt.getD i []).getD j 0).toInt &&& Int32.ofInt 255).toInt = xchr i j from hc.1]
  refine xa_i2c eJlch_13 hc.2.1 ?_
  exact xa_nret eJlch_14 rfl hc.2.2.1 ⟨_, rfl, hq⟩
theorem k_Jcha {w : xW} {S : xS} {B : String → xS → Prop} {A : Int → xS → Prop} {i j : Nat} {a : Int} (hi : i < 6) (ea : a = (j : Int)) (hj : j < xslen.getD i 0) (hq : A (xchr i j) S) : Ki w mJcha yJ0_charAt_5068e 0 0 [xp 51 i, xi a] S A B := by
  subst ea
  refine K.of rfl rfl rfl rfl (Nat.le_of_ble_eq_true rfl) rfl ?_
  have hc := xchr_ok i hi j hj
  refine xs_aload_0 eJcha_0 ?_
  refine xbi_T0 (mi' := mJlat) (y := yJ0_isLatin1_aae02) eJcha_1 (xw_5 lJ_492 wy_Jlat) rfl rfl ⟨wd_Jlat, by decide, by decide⟩ hi (Nat.le_of_ble_eq_true rfl) rfl (k_Jlat hi ?_)
  refine xa_if_eq (tgt := 16) eJcha_4 (by decide) (by decide) (fun c => absurd c (by decide)) (fun _ => ?_)
  refine xs_aload_0 eJcha_7 ?_
  refine xa_strV hi eJcha_8 lJ_value ?_
  refine xs_iload_1 eJcha_11 ?_
  refine xbi_C2 (mi' := mJlch) (y := yJ1_charAt_3b067) eJcha_12 (xw_4 lJ_495 wy_Jlch) rfl ⟨wd_Jlch, by decide, by decide⟩ (Nat.le_of_ble_eq_true rfl) rfl (k_Jlch hi hj ?_)
  exact xa_nret eJcha_15 rfl hc.2.2.1 ⟨_, rfl, hq⟩
