/-! the reference: tokens -/
def vmF (B : Nat → Int) : Nat → Nat → Int → Int
  | 0, _, v => v
  | k + 1, p, v => if isD (B p) then vmF B k (p + 1) (if 10000000 < v then v else 10 * v + B p - 48) else v
def whF (B : Nat → Int) : Nat → Nat → Nat → Int → Int
  | 0, _, _, h => h
  | k + 1, p, c, h => if isL (B p) then whF B k (p + 1) (c + 1) (if c < 11 then 27 * h + B p - 96 else h) else h
def pw : Nat → Int
  | 0 => 1
  | k + 1 => 27 * pw k
theorem pw_le : ∀ k, k < 11 → pw k ≤ 205891132094649 := by decide
theorem vmF_s {B : Nat → Int} {n p : Nat} {v : Int} (h : p < n) : vmF B (n - p) p v = if isD (B p) then vmF B (n - (p + 1)) (p + 1) (if 10000000 < v then v else 10 * v + B p - 48) else v := by rw [show n - p = (n - (p + 1)) + 1 by omega, vmF]
theorem whF_s {B : Nat → Int} {n p c : Nat} {v : Int} (h : p < n) : whF B (n - p) p c v = if isL (B p) then whF B (n - (p + 1)) (p + 1) (c + 1) (if c < 11 then 27 * v + B p - 96 else v) else v := by rw [show n - p = (n - (p + 1)) + 1 by omega, whF]
theorem vmF_n {B : Nat → Int} {n p : Nat} {v : Int} (h : n ≤ p) : vmF B (n - p) p v = v := by rw [show n - p = 0 by omega, vmF]
theorem whF_n {B : Nat → Int} {n p c : Nat} {v : Int} (h : n ≤ p) : whF B (n - p) p c v = v := by rw [show n - p = 0 by omega, whF]
/-- the reference's next token -/
def nxR (n p : Nat) (S : xS) : xS :=
  if n ≤ spF (S 41 0) (n - p) p then mt S (spF (S 41 0) (n - p) p : Nat) (spF (S 41 0) (n - p) p : Nat) 0 0 0 0
  else if isL (S 41 0 (spF (S 41 0) (n - p) p)) then mt S (wdF (S 41 0) (n - spF (S 41 0) (n - p) p) (spF (S 41 0) (n - p) p) : Nat) (spF (S 41 0) (n - p) p : Nat) 2 ((wdF (S 41 0) (n - spF (S 41 0) (n - p) p) (spF (S 41 0) (n - p) p) - spF (S 41 0) (n - p) p : Nat) : Int) 0 (whF (S 41 0) (n - spF (S 41 0) (n - p) p) (spF (S 41 0) (n - p) p) 0 0)
  else if isD (S 41 0 (spF (S 41 0) (n - p) p)) then mt S (dgF (S 41 0) (n - spF (S 41 0) (n - p) p) (spF (S 41 0) (n - p) p) : Nat) (spF (S 41 0) (n - p) p : Nat) 3 0 (vmF (S 41 0) (n - spF (S 41 0) (n - p) p) (spF (S 41 0) (n - p) p) 0) 0
  else mt S ((spF (S 41 0) (n - p) p : Nat) + 1 : Int) (spF (S 41 0) (n - p) p : Nat) (if S 41 0 (spF (S 41 0) (n - p) p) = 59 then 4 else 1) 0 0 0
set_option maxHeartbeats 400000 in
theorem l2_X8_nextToken {w : xW} {S : xS} {B : String → xS → Prop} {A : xS → Prop} {n q r : Nat} {b rv : Int} (hn : S 30 0 14 = (n : Int)) (h7 : n ≤ 700) (hB : ∀ i, i < n → 0 ≤ S 41 0 i ∧ S 41 0 i ≤ 255) (hqn : q ≤ n) (hq : A (mt S (r : Int) (q : Int) 2 ((r - q : Nat) : Int) 0 rv)) (hr0 : wdF (S 41 0) (n - q) q = r) (hv0 : whF (S 41 0) (n - q) q 0 0 = rv) : X w mX8_nextToken (xTG w (fun v S' => v = none ∧ A S') B) 0 0 96 [xp 30 0, xi b] [] (mt S (q : Int) (q : Int) 2 0 0 0) := by
  have lp2 : ∀ x : Nat, x ≤ n → ∀ u : Int, q ≤ x → 0 ≤ u ∧ u < 5559060566555523 → (x - q < 11 → u < pw (x - q)) → wdF (S 41 0) (n - x) x = r → whF (S 41 0) (n - x) x (x - q) u = rv → X w mX8_nextToken (xTG w (fun v S' => v = none ∧ A S') B) 0 0 96 [xp 30 0, xi b] [] (mt S (x : Int) (q : Int) 2 ((x - q : Nat) : Int) 0 u) := by
    refine nloop n (fun x hxn ih u hqx hu hp hr hv => ?_)
    have hb1 : x < n → bat (S 41 0) n x = S 41 0 x := fun z => if_pos z
    have hb2 : n ≤ x → bat (S 41 0) n x = -1 := fun z => if_neg (by omega)
    have hb3 := hB x
    have z8 := pw_le (x - q)
    refine xs_aload_0 eX8_nextToken_96 ?_
    refine xs_aload_0 eX8_nextToken_97 ?_
    refine gr_X8_15 eX8_nextToken_98 lRX8_275 (fun r98 => ?_)
    try simp (decide := true) only [mt_15, mt_16, mt_17, mt_18, mt_19, mt_22, mt_14, mt_41, hn, Int.toNat_natCast] at r98 ⊢
    refine xbi_V10 (mi' := mX8_byteAt) (y := yX8_byteAt) eX8_nextToken_101 (xw_5 lRX8_278 wy_X8_byteAt) rfl ⟨wd_X8_byteAt, by decide, by decide⟩ (by decide) (fun _ => rfl) rfl (Nat.le_of_ble_eq_true rfl) rfl (k_X8_byteAt (i := x) rfl (by omega) hn h7 ?_)
    rw [mt_41]
    refine xbi_S10 (mi' := mX8_isLetter) (y := yX8_isLetter) eX8_nextToken_104 (xw_4 lRX8_297 wy_X8_isLetter) rfl rfl ⟨wd_X8_isLetter, by decide, by decide⟩ (Nat.le_of_ble_eq_true rfl) rfl (k_X8_isLetter (by omega) ?_)
    refine xa_ifb_eq (tgt := 279) eX8_nextToken_107 (by decide) (fun c107 => ?_) (fun c107 => ?_)
    · exact xa_vret eX8_nextToken_279 rfl ⟨rfl, by have e1 : x = r := (by rw [← hr]; by_cases z : x < n; exact (by rw [wdF_s z, if_neg (by omega)]); exact (by rw [wdF_n (by omega)])) ; have e2 : u = rv := (by rw [← hv]; by_cases z : x < n; exact (by rw [whF_s z, if_neg (by omega)]); exact (by rw [whF_n (by omega)])) ; rw [e1, e2]; exact hq⟩
    · refine xs_aload_0 eX8_nextToken_110 ?_
      refine xs_aload_0 eX8_nextToken_111 ?_
      refine gr_X8_18 eX8_nextToken_112 lRX8_284 (fun r112 => ?_)
      try simp (decide := true) only [mt_15, mt_16, mt_17, mt_18, mt_19, mt_22, mt_14, mt_41, hn, Int.toNat_natCast] at r112 ⊢
      refine xa_bipush eX8_nextToken_115 (by decide) ?_
      refine xa_icmp_ge (tgt := 145) eX8_nextToken_117 (by decide) (by omega) (by decide) (fun c117 => ?_) (fun c117 => ?_)
      · refine xs_aload_0 eX8_nextToken_145 ?_
        refine gr_X8_22 eX8_nextToken_146 lRX8_287 (fun r146 => ?_)
        try simp (decide := true) only [mt_15, mt_16, mt_17, mt_18, mt_19, mt_22, mt_14, mt_41, hn, Int.toNat_natCast] at r146 ⊢
        refine p_X8_22 eX8_nextToken_149 lRX8_287 (by omega) ?_
        rw [mt_up22]
        refine xs_aload_0 eX8_nextToken_152 ?_
        refine xa_dup eX8_nextToken_153 rfl ?_
        refine gr_X8_18 eX8_nextToken_154 lRX8_284 (fun r154 => ?_)
        try simp (decide := true) only [mt_15, mt_16, mt_17, mt_18, mt_19, mt_22, mt_14, mt_41, hn, Int.toNat_natCast] at r154 ⊢
        refine xa_iconst eX8_nextToken_157 ?_
        refine xa_iadd eX8_nextToken_158 ?_
        refine p_X8_18 eX8_nextToken_159 lRX8_284 (by omega) ?_
        rw [mt_up18]
        refine xs_aload_0 eX8_nextToken_162 ?_
        refine xa_dup eX8_nextToken_163 rfl ?_
        refine gr_X8_15 eX8_nextToken_164 lRX8_275 (fun r164 => ?_)
        try simp (decide := true) only [mt_15, mt_16, mt_17, mt_18, mt_19, mt_22, mt_14, mt_41, hn, Int.toNat_natCast] at r164 ⊢
        refine xa_iconst eX8_nextToken_167 ?_
        refine xa_iadd eX8_nextToken_168 ?_
        refine p_X8_15 eX8_nextToken_169 lRX8_275 (by omega) ?_
        rw [mt_up15]
        refine xa_goto (tgt := 96) eX8_nextToken_172 (by decide) ?_
        have zn : x < n := by omega
        have z9 := pw_le (x - q)
        have zz : pw (x - q + 1) = 27 * pw (x - q) := rfl
        have h9 := ih (x + 1) (by omega) (by omega) (u) (by omega) (by omega) (fun z => by rw [show x + 1 - q = x - q + 1 by omega, zz]; omega) (by rw [← hr, wdF_s (p := x) zn, if_pos (by omega)]) (by rw [← hv, whF_s (p := x) zn, if_pos (by omega), if_neg (by omega), show x + 1 - q = x - q + 1 by omega])
        rw [show ((x + 1 : Nat) : Int) = (x : Int) + 1 by omega, show ((x + 1 - q : Nat) : Int) = ((x - q : Nat) : Int) + 1 by omega] at h9
        exact h9
      · refine xa_ldc2 (a := 27) eX8_nextToken_120 lRX8_300 (by decide) ?_
        refine xs_aload_0 eX8_nextToken_123 ?_
        refine gr_X8_22 eX8_nextToken_124 lRX8_287 (fun r124 => ?_)
        try simp (decide := true) only [mt_15, mt_16, mt_17, mt_18, mt_19, mt_22, mt_14, mt_41, hn, Int.toNat_natCast] at r124 ⊢
        refine xa_lmul eX8_nextToken_127 ?_
        refine xs_aload_0 eX8_nextToken_128 ?_
        refine xs_aload_0 eX8_nextToken_129 ?_
        refine gr_X8_15 eX8_nextToken_130 lRX8_275 (fun r130 => ?_)
        try simp (decide := true) only [mt_15, mt_16, mt_17, mt_18, mt_19, mt_22, mt_14, mt_41, hn, Int.toNat_natCast] at r130 ⊢
        refine xbi_V10 (mi' := mX8_byteAt) (y := yX8_byteAt) eX8_nextToken_133 (xw_5 lRX8_278 wy_X8_byteAt) rfl ⟨wd_X8_byteAt, by decide, by decide⟩ (by decide) (fun _ => rfl) rfl (Nat.le_of_ble_eq_true rfl) rfl (k_X8_byteAt (i := x) rfl (by omega) hn h7 ?_)
        rw [mt_41]
        refine xa_i2l eX8_nextToken_136 (by omega) ?_
        refine xa_ladd eX8_nextToken_137 ?_
        refine xa_ldc2 (a := 96) eX8_nextToken_138 lRX8_302 (by decide) ?_
        refine xa_lsub eX8_nextToken_141 ?_
        refine xa_goto (tgt := 149) eX8_nextToken_142 (by decide) ?_
        refine p_X8_22 eX8_nextToken_149 lRX8_287 (by omega) ?_
        rw [mt_up22]
        refine xs_aload_0 eX8_nextToken_152 ?_
        refine xa_dup eX8_nextToken_153 rfl ?_
        refine gr_X8_18 eX8_nextToken_154 lRX8_284 (fun r154 => ?_)
        try simp (decide := true) only [mt_15, mt_16, mt_17, mt_18, mt_19, mt_22, mt_14, mt_41, hn, Int.toNat_natCast] at r154 ⊢
        refine xa_iconst eX8_nextToken_157 ?_
        refine xa_iadd eX8_nextToken_158 ?_
        refine p_X8_18 eX8_nextToken_159 lRX8_284 (by omega) ?_
        rw [mt_up18]
        refine xs_aload_0 eX8_nextToken_162 ?_
        refine xa_dup eX8_nextToken_163 rfl ?_
        refine gr_X8_15 eX8_nextToken_164 lRX8_275 (fun r164 => ?_)
        try simp (decide := true) only [mt_15, mt_16, mt_17, mt_18, mt_19, mt_22, mt_14, mt_41, hn, Int.toNat_natCast] at r164 ⊢
        refine xa_iconst eX8_nextToken_167 ?_
        refine xa_iadd eX8_nextToken_168 ?_
        refine p_X8_15 eX8_nextToken_169 lRX8_275 (by omega) ?_
        rw [mt_up15]
        refine xa_goto (tgt := 96) eX8_nextToken_172 (by decide) ?_
        rw [hb1 (by omega)]
        have zn : x < n := by omega
        have z9 := pw_le (x - q)
        have zz : pw (x - q + 1) = 27 * pw (x - q) := rfl
        have h9 := ih (x + 1) (by omega) (by omega) (27 * u + S 41 0 x - 96) (by omega) (by omega) (fun z => by rw [show x + 1 - q = x - q + 1 by omega, zz]; omega) (by rw [← hr, wdF_s (p := x) zn, if_pos (by omega)]) (by rw [← hv, whF_s (p := x) zn, if_pos (by omega), if_pos (by omega), show x + 1 - q = x - q + 1 by omega])
        rw [show ((x + 1 : Nat) : Int) = (x : Int) + 1 by omega, show ((x + 1 - q : Nat) : Int) = ((x - q : Nat) : Int) + 1 by omega] at h9
        exact h9
  have h9 := lp2 q hqn 0 (Nat.le_refl q) (by decide) (fun _ => by rw [Nat.sub_self]; decide) hr0 (by rw [Nat.sub_self]; exact hv0)
  rw [Nat.sub_self] at h9
  exact h9
