/-! the class: tokens -/
def tk (S : xS) (s e k v : Int) : xS := fun a b f => if a = 3 ∧ b = 0 ∧ f = 7 then s else if a = 3 ∧ b = 0 ∧ f = 8 then e else if a = 3 ∧ b = 0 ∧ f = 6 then k else if a = 3 ∧ b = 0 ∧ f = 9 then v else S a b f
section TK
variable {S : xS} {s e k v x : Int}
theorem tk_7 : tk S s e k v 3 0 7 = s := rfl
theorem tk_8 : tk S s e k v 3 0 8 = e := rfl
theorem tk_6 : tk S s e k v 3 0 6 = k := rfl
theorem tk_9 : tk S s e k v 3 0 9 = v := rfl
theorem tk_1 : tk S s e k v 3 0 1 = S 3 0 1 := rfl
theorem tk_4 : tk S s e k v 3 0 4 = S 3 0 4 := rfl
theorem tk_5 : tk S s e k v 3 0 5 = S 3 0 5 := rfl
theorem tk_o {a : Nat} (h : a ≠ 3) : tk S s e k v a = S a := by
  funext b f
  unfold tk
  rw [if_neg (by omega), if_neg (by omega), if_neg (by omega), if_neg (by omega)]
theorem tk_24 : tk S s e k v 24 = S 24 := tk_o (by decide)
theorem tk_up7 : up (tk S s e k v) 3 0 7 x = tk S x e k v := by
  funext a b f
  unfold up tk
  by_cases c7 : a = 3 ∧ b = 0 ∧ f = 7
  · rw [if_pos c7, if_pos c7]
  · rw [if_neg c7, if_neg c7, if_neg c7]
theorem tk_up8 : up (tk S s e k v) 3 0 8 x = tk S s x k v := by
  funext a b f
  unfold up tk
  by_cases c8 : a = 3 ∧ b = 0 ∧ f = 8
  · rw [if_pos c8, if_neg (by omega), if_pos c8]
  · rw [if_neg c8]
    by_cases c7 : a = 3 ∧ b = 0 ∧ f = 7
    · rw [if_pos c7, if_pos c7]
    · rw [if_neg c7, if_neg c7, if_neg c8, if_neg c8]
theorem tk_up6 : up (tk S s e k v) 3 0 6 x = tk S s e x v := by
  funext a b f
  unfold up tk
  by_cases c6 : a = 3 ∧ b = 0 ∧ f = 6
  · rw [if_pos c6, if_neg (by omega), if_neg (by omega), if_pos c6]
  · rw [if_neg c6]
    by_cases c7 : a = 3 ∧ b = 0 ∧ f = 7
    · rw [if_pos c7, if_pos c7]
    · rw [if_neg c7, if_neg c7]
      by_cases c8 : a = 3 ∧ b = 0 ∧ f = 8
      · rw [if_pos c8, if_pos c8]
      · rw [if_neg c8, if_neg c8, if_neg c6, if_neg c6]
theorem tk_up9 : up (tk S s e k v) 3 0 9 x = tk S s e k x := by
  funext a b f
  unfold up tk
  by_cases c9 : a = 3 ∧ b = 0 ∧ f = 9
  · rw [if_pos c9, if_neg (by omega), if_neg (by omega), if_neg (by omega), if_pos c9]
  · rw [if_neg c9]
    by_cases c7 : a = 3 ∧ b = 0 ∧ f = 7
    · rw [if_pos c7, if_pos c7]
    · rw [if_neg c7, if_neg c7]
      by_cases c8 : a = 3 ∧ b = 0 ∧ f = 8
      · rw [if_pos c8, if_pos c8]
      · rw [if_neg c8, if_neg c8]
        by_cases c6 : a = 3 ∧ b = 0 ∧ f = 6
        · rw [if_pos c6, if_pos c6]
        · rw [if_neg c6, if_neg c6, if_neg c9, if_neg c9]
theorem tk_tk {s' e' k' v' : Int} : tk (tk S s e k v) s' e' k' v' = tk S s' e' k' v' := by
  funext a b f
  unfold tk
  by_cases c7 : a = 3 ∧ b = 0 ∧ f = 7
  · rw [if_pos c7, if_pos c7]
  · rw [if_neg c7, if_neg c7, if_neg c7]
    by_cases c8 : a = 3 ∧ b = 0 ∧ f = 8
    · rw [if_pos c8, if_pos c8]
    · rw [if_neg c8, if_neg c8, if_neg c8]
      by_cases c6 : a = 3 ∧ b = 0 ∧ f = 6
      · rw [if_pos c6, if_pos c6]
      · rw [if_neg c6, if_neg c6, if_neg c6]
        by_cases c9 : a = 3 ∧ b = 0 ∧ f = 9
        · rw [if_pos c9, if_pos c9]
        · rw [if_neg c9, if_neg c9, if_neg c9]
theorem tk_self : tk S (S 3 0 7) (S 3 0 8) (S 3 0 6) (S 3 0 9) = S := by
  funext a b f
  unfold tk
  by_cases c7 : a = 3 ∧ b = 0 ∧ f = 7
  · obtain ⟨rfl, rfl, rfl⟩ := c7; rfl
  · rw [if_neg c7]
    by_cases c8 : a = 3 ∧ b = 0 ∧ f = 8
    · obtain ⟨rfl, rfl, rfl⟩ := c8; rfl
    · rw [if_neg c8]
      by_cases c6 : a = 3 ∧ b = 0 ∧ f = 6
      · obtain ⟨rfl, rfl, rfl⟩ := c6; rfl
      · rw [if_neg c6]
        by_cases c9 : a = 3 ∧ b = 0 ∧ f = 9
        · obtain ⟨rfl, rfl, rfl⟩ := c9; rfl
        · rw [if_neg c9]
end TK
abbrev isL (b : Int) : Prop := 97 ≤ b ∧ b ≤ 122
abbrev isD (b : Int) : Prop := 48 ≤ b ∧ b ≤ 57
abbrev isS (b : Int) : Prop := b = 32 ∨ b = 10
def spF (B : Nat → Int) : Nat → Nat → Nat
  | 0, p => p
  | k + 1, p => if isS (B p) then spF B k (p + 1) else p
def wdF (B : Nat → Int) : Nat → Nat → Nat
  | 0, p => p
  | k + 1, p => if isL (B p) then wdF B k (p + 1) else p
def dgF (B : Nat → Int) : Nat → Nat → Nat
  | 0, p => p
  | k + 1, p => if isD (B p) then dgF B k (p + 1) else p
def vlF (B : Nat → Int) : Nat → Nat → Int → Int
  | 0, _, v => v
  | k + 1, p, v => if isD (B p) then vlF B k (p + 1) (xmin 10000000 (v * 10 + B p - 48)) else v
theorem spF_s {B : Nat → Int} {n p : Nat} (h : p < n) : spF B (n - p) p = if isS (B p) then spF B (n - (p + 1)) (p + 1) else p := by rw [show n - p = (n - (p + 1)) + 1 by omega, spF]
theorem wdF_s {B : Nat → Int} {n p : Nat} (h : p < n) : wdF B (n - p) p = if isL (B p) then wdF B (n - (p + 1)) (p + 1) else p := by rw [show n - p = (n - (p + 1)) + 1 by omega, wdF]
theorem dgF_s {B : Nat → Int} {n p : Nat} (h : p < n) : dgF B (n - p) p = if isD (B p) then dgF B (n - (p + 1)) (p + 1) else p := by rw [show n - p = (n - (p + 1)) + 1 by omega, dgF]
theorem vlF_s {B : Nat → Int} {n p : Nat} {v : Int} (h : p < n) : vlF B (n - p) p v = if isD (B p) then vlF B (n - (p + 1)) (p + 1) (xmin 10000000 (v * 10 + B p - 48)) else v := by rw [show n - p = (n - (p + 1)) + 1 by omega, vlF]
theorem spF_n {B : Nat → Int} {n p : Nat} (h : n ≤ p) : spF B (n - p) p = p := by rw [show n - p = 0 by omega, spF]
theorem wdF_n {B : Nat → Int} {n p : Nat} (h : n ≤ p) : wdF B (n - p) p = p := by rw [show n - p = 0 by omega, wdF]
theorem dgF_n {B : Nat → Int} {n p : Nat} (h : n ≤ p) : dgF B (n - p) p = p := by rw [show n - p = 0 by omega, dgF]
theorem vlF_n {B : Nat → Int} {n p : Nat} {v : Int} (h : n ≤ p) : vlF B (n - p) p v = v := by rw [show n - p = 0 by omega, vlF]
theorem spF_r {B : Nat → Int} : ∀ k p, p ≤ spF B k p ∧ spF B k p ≤ p + k
  | 0, p => by unfold spF; omega
  | k + 1, p => by have h := spF_r (B := B) k (p + 1); unfold spF; split <;> omega
theorem wdF_r {B : Nat → Int} : ∀ k p, p ≤ wdF B k p ∧ wdF B k p ≤ p + k
  | 0, p => by unfold wdF; omega
  | k + 1, p => by have h := wdF_r (B := B) k (p + 1); unfold wdF; split <;> omega
theorem dgF_r {B : Nat → Int} : ∀ k p, p ≤ dgF B k p ∧ dgF B k p ≤ p + k
  | 0, p => by unfold dgF; omega
  | k + 1, p => by have h := dgF_r (B := B) k (p + 1); unfold dgF; split <;> omega
theorem vlF_r {B : Nat → Int} : ∀ k p v, 0 ≤ v ∧ v ≤ 10000000 → 0 ≤ vlF B k p v ∧ vlF B k p v ≤ 10000000
  | 0, p, v, h => by unfold vlF; omega
  | k + 1, p, v, h => by
    unfold vlF
    split
    · rename_i c
      exact vlF_r k (p + 1) _ (by have z := xmin_or 10000000 (v * 10 + B p - 48); have z2 := xmin_le 10000000 (v * 10 + B p - 48); omega)
    · exact h
set_option maxHeartbeats 400000 in
theorem k_X3_passWord {w : xW} {S : xS} {B : String → xS → Prop} {A : xS → Prop} {n p : Nat} {s k v : Int} (hn : S 3 0 1 = (n : Int)) (h7 : n ≤ 700) (hp : p ≤ n) (hq : A (tk S s (wdF (S 24 0) (n - p) p : Nat) k v)) : Kv w mX3_passWord yX3_passWord 0 0 [xp 3 0] (tk S s (p : Int) k v) A B := by
  refine K.of rfl rfl rfl rfl (Nat.le_of_ble_eq_true rfl) rfl ?_
  obtain ⟨r, hr0⟩ : ∃ r, wdF (S 24 0) (n - p) p = r := ⟨_, rfl⟩
  rw [hr0] at hq
  have lp : ∀ q : Nat, q ≤ n → wdF (S 24 0) (n - q) q = r → X w mX3_passWord (xTG w (fun v S' => v = none ∧ A S') B) 0 0 0 [xp 3 0] [] (tk S s (q : Int) k v) := by
    refine nloop n (fun q hqn ih hr => ?_)
    refine xs_aload_0 eX3_passWord_0 ?_
    refine gr_X3_8 eX3_passWord_1 lRX3_51 (fun r1 => ?_)
    try simp (decide := true) only [tk_7, tk_8, tk_6, tk_9, tk_1, tk_4, tk_5, tk_24, hn, Int.toNat_natCast] at r1 ⊢
    refine xs_aload_0 eX3_passWord_4 ?_
    refine gr_X3_1 eX3_passWord_5 lRX3_42 (fun r5 => ?_)
    try simp (decide := true) only [tk_7, tk_8, tk_6, tk_9, tk_1, tk_4, tk_5, tk_24, hn, Int.toNat_natCast] at r5 ⊢
    refine xa_icmp_ge (tgt := 52) eX3_passWord_8 (by decide) (by omega) (by omega) (fun c8 => ?_) (fun c8 => ?_)
    · exact xa_vret eX3_passWord_52 rfl ⟨rfl, by rw [wdF_n (by omega)] at hr; rw [← hr] at hq; exact hq⟩
    · refine xs_aload_0 eX3_passWord_11 ?_
      refine g_X3_0 eX3_passWord_12 lRX3_9 ?_
      refine xs_aload_0 eX3_passWord_15 ?_
      refine gr_X3_8 eX3_passWord_16 lRX3_51 (fun r16 => ?_)
      try simp (decide := true) only [tk_7, tk_8, tk_6, tk_9, tk_1, tk_4, tk_5, tk_24, hn, Int.toNat_natCast] at r16 ⊢
      refine gar_24 eX3_passWord_19 (by omega) (fun r19 => ?_)
      try simp (decide := true) only [tk_7, tk_8, tk_6, tk_9, tk_1, tk_4, tk_5, tk_24, hn, Int.toNat_natCast] at r19 ⊢
      refine xa_bipush eX3_passWord_20 (by decide) ?_
      refine xa_icmp_lt (tgt := 52) eX3_passWord_22 (by decide) (by omega) (by decide) (fun c22 => ?_) (fun c22 => ?_)
      · exact xa_vret eX3_passWord_52 rfl ⟨rfl, by rw [wdF_s (by omega), if_neg (by omega)] at hr; rw [← hr] at hq; exact hq⟩
      · refine xs_aload_0 eX3_passWord_25 ?_
        refine g_X3_0 eX3_passWord_26 lRX3_9 ?_
        refine xs_aload_0 eX3_passWord_29 ?_
        refine gr_X3_8 eX3_passWord_30 lRX3_51 (fun r30 => ?_)
        try simp (decide := true) only [tk_7, tk_8, tk_6, tk_9, tk_1, tk_4, tk_5, tk_24, hn, Int.toNat_natCast] at r30 ⊢
        refine gar_24 eX3_passWord_33 (by omega) (fun r33 => ?_)
        try simp (decide := true) only [tk_7, tk_8, tk_6, tk_9, tk_1, tk_4, tk_5, tk_24, hn, Int.toNat_natCast] at r33 ⊢
        refine xa_bipush eX3_passWord_34 (by decide) ?_
        refine xa_icmp_gt (tgt := 52) eX3_passWord_36 (by decide) (by omega) (by decide) (fun c36 => ?_) (fun c36 => ?_)
        · exact xa_vret eX3_passWord_52 rfl ⟨rfl, by rw [wdF_s (by omega), if_neg (by omega)] at hr; rw [← hr] at hq; exact hq⟩
        · refine xs_aload_0 eX3_passWord_39 ?_
          refine xa_dup eX3_passWord_40 rfl ?_
          refine gr_X3_8 eX3_passWord_41 lRX3_51 (fun r41 => ?_)
          try simp (decide := true) only [tk_7, tk_8, tk_6, tk_9, tk_1, tk_4, tk_5, tk_24, hn, Int.toNat_natCast] at r41 ⊢
          refine xa_iconst eX3_passWord_44 ?_
          refine xa_iadd eX3_passWord_45 ?_
          refine p_X3_8 eX3_passWord_46 lRX3_51 (by omega) ?_
          rw [tk_up8]
          refine xa_goto (tgt := 0) eX3_passWord_49 (by decide) ?_
          have h9 := ih (q + 1) (by omega) (by omega) (by rw [← hr, wdF_s (p := q) (by omega), if_pos (by omega)])
          rw [show ((q + 1 : Nat) : Int) = (q : Int) + 1 by omega] at h9
          exact h9
  exact lp p hp hr0
set_option maxHeartbeats 400000 in
theorem k_X3_passNumber {w : xW} {S : xS} {B : String → xS → Prop} {A : xS → Prop} {n p : Nat} {s k v : Int} (hn : S 3 0 1 = (n : Int)) (h7 : n ≤ 700) (hp : p ≤ n) (hq : A (tk S s (dgF (S 24 0) (n - p) p : Nat) k (vlF (S 24 0) (n - p) p 0))) : Kv w mX3_passNumber yX3_passNumber 0 0 [xp 3 0] (tk S s (p : Int) k v) A B := by
  refine K.of rfl rfl rfl rfl (Nat.le_of_ble_eq_true rfl) rfl ?_
  obtain ⟨r, hr0⟩ : ∃ r, dgF (S 24 0) (n - p) p = r := ⟨_, rfl⟩
  obtain ⟨rv, hv0⟩ : ∃ rv, vlF (S 24 0) (n - p) p 0 = rv := ⟨_, rfl⟩
  rw [hr0, hv0] at hq
  have lp : ∀ q : Nat, q ≤ n → ∀ u : Int, 0 ≤ u ∧ u ≤ 10000000 → dgF (S 24 0) (n - q) q = r → vlF (S 24 0) (n - q) q u = rv → X w mX3_passNumber (xTG w (fun v S' => v = none ∧ A S') B) 0 0 5 [xp 3 0] [] (tk S s (q : Int) k u) := by
    refine nloop n (fun q hqn ih u hu hr hv => ?_)
    refine xs_aload_0 eX3_passNumber_5 ?_
    refine gr_X3_8 eX3_passNumber_6 lRX3_51 (fun r6 => ?_)
    try simp (decide := true) only [tk_7, tk_8, tk_6, tk_9, tk_1, tk_4, tk_5, tk_24, hn, Int.toNat_natCast] at r6 ⊢
    refine xs_aload_0 eX3_passNumber_9 ?_
    refine gr_X3_1 eX3_passNumber_10 lRX3_42 (fun r10 => ?_)
    try simp (decide := true) only [tk_7, tk_8, tk_6, tk_9, tk_1, tk_4, tk_5, tk_24, hn, Int.toNat_natCast] at r10 ⊢
    refine xa_icmp_ge (tgt := 86) eX3_passNumber_13 (by decide) (by omega) (by omega) (fun c13 => ?_) (fun c13 => ?_)
    · exact xa_vret eX3_passNumber_86 rfl ⟨rfl, by rw [dgF_n (by omega)] at hr; rw [vlF_n (by omega)] at hv; rw [← hr, ← hv] at hq; exact hq⟩
    · refine xs_aload_0 eX3_passNumber_16 ?_
      refine g_X3_0 eX3_passNumber_17 lRX3_9 ?_
      refine xs_aload_0 eX3_passNumber_20 ?_
      refine gr_X3_8 eX3_passNumber_21 lRX3_51 (fun r21 => ?_)
      try simp (decide := true) only [tk_7, tk_8, tk_6, tk_9, tk_1, tk_4, tk_5, tk_24, hn, Int.toNat_natCast] at r21 ⊢
      refine gar_24 eX3_passNumber_24 (by omega) (fun r24 => ?_)
      try simp (decide := true) only [tk_7, tk_8, tk_6, tk_9, tk_1, tk_4, tk_5, tk_24, hn, Int.toNat_natCast] at r24 ⊢
      refine xa_bipush eX3_passNumber_25 (by decide) ?_
      refine xa_icmp_lt (tgt := 86) eX3_passNumber_27 (by decide) (by omega) (by decide) (fun c27 => ?_) (fun c27 => ?_)
      · exact xa_vret eX3_passNumber_86 rfl ⟨rfl, by rw [dgF_s (by omega), if_neg (by omega)] at hr; rw [vlF_s (by omega), if_neg (by omega)] at hv; rw [← hr, ← hv] at hq; exact hq⟩
      · refine xs_aload_0 eX3_passNumber_30 ?_
        refine g_X3_0 eX3_passNumber_31 lRX3_9 ?_
        refine xs_aload_0 eX3_passNumber_34 ?_
        refine gr_X3_8 eX3_passNumber_35 lRX3_51 (fun r35 => ?_)
        try simp (decide := true) only [tk_7, tk_8, tk_6, tk_9, tk_1, tk_4, tk_5, tk_24, hn, Int.toNat_natCast] at r35 ⊢
        refine gar_24 eX3_passNumber_38 (by omega) (fun r38 => ?_)
        try simp (decide := true) only [tk_7, tk_8, tk_6, tk_9, tk_1, tk_4, tk_5, tk_24, hn, Int.toNat_natCast] at r38 ⊢
        refine xa_bipush eX3_passNumber_39 (by decide) ?_
        refine xa_icmp_gt (tgt := 86) eX3_passNumber_41 (by decide) (by omega) (by decide) (fun c41 => ?_) (fun c41 => ?_)
        · exact xa_vret eX3_passNumber_86 rfl ⟨rfl, by rw [dgF_s (by omega), if_neg (by omega)] at hr; rw [vlF_s (by omega), if_neg (by omega)] at hv; rw [← hr, ← hv] at hq; exact hq⟩
        · refine xs_aload_0 eX3_passNumber_44 ?_
          refine xa_ldc (a := 10000000) eX3_passNumber_45 lRX3_184 (by decide) ?_
          refine xs_aload_0 eX3_passNumber_47 ?_
          refine gr_X3_9 eX3_passNumber_48 lRX3_106 (fun r48 => ?_)
          try simp (decide := true) only [tk_7, tk_8, tk_6, tk_9, tk_1, tk_4, tk_5, tk_24, hn, Int.toNat_natCast] at r48 ⊢
          refine xa_bipush eX3_passNumber_51 (by decide) ?_
          refine xa_imul eX3_passNumber_53 ?_
          refine xs_aload_0 eX3_passNumber_54 ?_
          refine g_X3_0 eX3_passNumber_55 lRX3_9 ?_
          refine xs_aload_0 eX3_passNumber_58 ?_
          refine gr_X3_8 eX3_passNumber_59 lRX3_51 (fun r59 => ?_)
          try simp (decide := true) only [tk_7, tk_8, tk_6, tk_9, tk_1, tk_4, tk_5, tk_24, hn, Int.toNat_natCast] at r59 ⊢
          refine gar_24 eX3_passNumber_62 (by omega) (fun r62 => ?_)
          try simp (decide := true) only [tk_7, tk_8, tk_6, tk_9, tk_1, tk_4, tk_5, tk_24, hn, Int.toNat_natCast] at r62 ⊢
          refine xa_iadd eX3_passNumber_63 ?_
          refine xa_bipush eX3_passNumber_64 (by decide) ?_
          refine xa_isub eX3_passNumber_66 ?_
          refine xa_min eX3_passNumber_67 lRX3_185 lm_min1 li_Math lm_min2 (by decide) (Nat.le_of_ble_eq_true rfl) rfl (by decide) (by omega) ?_
          refine p_X3_9 eX3_passNumber_70 lRX3_106 (by have z := xmin_or 10000000 (u * 10 + S 24 0 q - 48); omega) ?_
          rw [tk_up9]
          refine xs_aload_0 eX3_passNumber_73 ?_
          refine xa_dup eX3_passNumber_74 rfl ?_
          refine gr_X3_8 eX3_passNumber_75 lRX3_51 (fun r75 => ?_)
          try simp (decide := true) only [tk_7, tk_8, tk_6, tk_9, tk_1, tk_4, tk_5, tk_24, hn, Int.toNat_natCast] at r75 ⊢
          refine xa_iconst eX3_passNumber_78 ?_
          refine xa_iadd eX3_passNumber_79 ?_
          refine p_X3_8 eX3_passNumber_80 lRX3_51 (by omega) ?_
          rw [tk_up8]
          refine xa_goto (tgt := 5) eX3_passNumber_83 (by decide) ?_
          have zx := xmin_or 10000000 (u * 10 + S 24 0 q - 48)
          have zy := xmin_le 10000000 (u * 10 + S 24 0 q - 48)
          have h9 := ih (q + 1) (by omega) (by omega) (xmin 10000000 (u * 10 + S 24 0 q - 48)) (by omega) (by rw [← hr, dgF_s (p := q) (by omega), if_pos (by omega)]) (by rw [← hv, vlF_s (p := q) (by omega), if_pos (by omega)])
          rw [show ((q + 1 : Nat) : Int) = (q : Int) + 1 by omega] at h9
          exact h9
  refine xs_aload_0 eX3_passNumber_0 ?_
  refine xa_iconst eX3_passNumber_1 ?_
  refine p_X3_9 eX3_passNumber_2 lRX3_106 (by decide) ?_
  rw [tk_up9]
  exact lp p hp 0 (by decide) hr0 hv0
def tkE (B : Nat → Int) (n s : Nat) : Nat := if n ≤ s then s else if isL (B s) then wdF B (n - s) s else if isD (B s) then dgF B (n - s) s else s + 1
def tkK (B : Nat → Int) (n s : Nat) : Int := if n ≤ s then 0 else if isL (B s) then 1 else if isD (B s) then 2 else if B s = 59 then 3 else 4
def tkV (B : Nat → Int) (n s : Nat) (v : Int) : Int := if n ≤ s then v else if isL (B s) then v else if isD (B s) then vlF B (n - s) s 0 else v
def nxS (n p : Nat) (v : Int) (S : xS) : xS := tk S (spF (S 24 0) (n - p) p : Nat) (tkE (S 24 0) n (spF (S 24 0) (n - p) p) : Nat) (tkK (S 24 0) n (spF (S 24 0) (n - p) p)) (tkV (S 24 0) n (spF (S 24 0) (n - p) p) v)
set_option maxHeartbeats 400000 in
theorem k_X3_nextToken {w : xW} {S : xS} {B : String → xS → Prop} {A : xS → Prop} {n p : Nat} {s k v : Int} (hn : S 3 0 1 = (n : Int)) (h7 : n ≤ 700) (hp : p ≤ n) (hq : A (nxS n p v S)) : Kv w mX3_nextToken yX3_nextToken 0 0 [xp 3 0] (tk S s (p : Int) k v) A B := by
  refine K.of rfl rfl rfl rfl (Nat.le_of_ble_eq_true rfl) rfl ?_
  have tl : ∀ q : Nat, q ≤ n → spF (S 24 0) (n - p) p = q → X w mX3_nextToken (xTG w (fun v S' => v = none ∧ A S') B) 0 0 60 [xp 3 0] [] (tk S (q : Int) (p : Int) k v) := by
    intro q hqn hsp
    unfold nxS at hq
    rw [hsp] at hq
    refine xs_aload_0 eX3_nextToken_60 ?_
    refine xs_aload_0 eX3_nextToken_61 ?_
    refine gr_X3_7 eX3_nextToken_62 lRX3_169 (fun r62 => ?_)
    try simp (decide := true) only [tk_7, tk_8, tk_6, tk_9, tk_1, tk_4, tk_5, tk_24, hn, Int.toNat_natCast] at r62 ⊢
    refine p_X3_8 eX3_nextToken_65 lRX3_51 (by omega) ?_
    rw [tk_up8]
    refine xs_aload_0 eX3_nextToken_68 ?_
    refine gr_X3_7 eX3_nextToken_69 lRX3_169 (fun r69 => ?_)
    try simp (decide := true) only [tk_7, tk_8, tk_6, tk_9, tk_1, tk_4, tk_5, tk_24, hn, Int.toNat_natCast] at r69 ⊢
    refine xs_aload_0 eX3_nextToken_72 ?_
    refine gr_X3_1 eX3_nextToken_73 lRX3_42 (fun r73 => ?_)
    try simp (decide := true) only [tk_7, tk_8, tk_6, tk_9, tk_1, tk_4, tk_5, tk_24, hn, Int.toNat_natCast] at r73 ⊢
    refine xa_icmp_lt (tgt := 89) eX3_nextToken_76 (by decide) (by omega) (by omega) (fun c76 => ?_) (fun c76 => ?_)
    · refine xs_aload_0 eX3_nextToken_89 ?_
      refine g_X3_0 eX3_nextToken_90 lRX3_9 ?_
      refine xs_aload_0 eX3_nextToken_93 ?_
      refine gr_X3_7 eX3_nextToken_94 lRX3_169 (fun r94 => ?_)
      try simp (decide := true) only [tk_7, tk_8, tk_6, tk_9, tk_1, tk_4, tk_5, tk_24, hn, Int.toNat_natCast] at r94 ⊢
      refine gar_24 eX3_nextToken_97 (by omega) (fun r97 => ?_)
      try simp (decide := true) only [tk_7, tk_8, tk_6, tk_9, tk_1, tk_4, tk_5, tk_24, hn, Int.toNat_natCast] at r97 ⊢
      refine xa_bipush eX3_nextToken_98 (by decide) ?_
      refine xa_icmp_lt (tgt := 131) eX3_nextToken_100 (by decide) (by omega) (by decide) (fun c100 => ?_) (fun c100 => ?_)
      · refine xs_aload_0 eX3_nextToken_131 ?_
        refine g_X3_0 eX3_nextToken_132 lRX3_9 ?_
        refine xs_aload_0 eX3_nextToken_135 ?_
        refine gr_X3_7 eX3_nextToken_136 lRX3_169 (fun r136 => ?_)
        try simp (decide := true) only [tk_7, tk_8, tk_6, tk_9, tk_1, tk_4, tk_5, tk_24, hn, Int.toNat_natCast] at r136 ⊢
        refine gar_24 eX3_nextToken_139 (by omega) (fun r139 => ?_)
        try simp (decide := true) only [tk_7, tk_8, tk_6, tk_9, tk_1, tk_4, tk_5, tk_24, hn, Int.toNat_natCast] at r139 ⊢
        refine xa_bipush eX3_nextToken_140 (by decide) ?_
        refine xa_icmp_lt (tgt := 173) eX3_nextToken_142 (by decide) (by omega) (by decide) (fun c142 => ?_) (fun c142 => ?_)
        · refine xs_aload_0 eX3_nextToken_173 ?_
          refine xs_aload_0 eX3_nextToken_174 ?_
          refine g_X3_0 eX3_nextToken_175 lRX3_9 ?_
          refine xs_aload_0 eX3_nextToken_178 ?_
          refine gr_X3_7 eX3_nextToken_179 lRX3_169 (fun r179 => ?_)
          try simp (decide := true) only [tk_7, tk_8, tk_6, tk_9, tk_1, tk_4, tk_5, tk_24, hn, Int.toNat_natCast] at r179 ⊢
          refine gar_24 eX3_nextToken_182 (by omega) (fun r182 => ?_)
          try simp (decide := true) only [tk_7, tk_8, tk_6, tk_9, tk_1, tk_4, tk_5, tk_24, hn, Int.toNat_natCast] at r182 ⊢
          refine xa_bipush eX3_nextToken_183 (by decide) ?_
          refine xa_icmp_ne (tgt := 194) eX3_nextToken_185 (by decide) (by omega) (by decide) (fun c185 => ?_) (fun c185 => ?_)
          · refine xa_tok (i := 4) eX3_nextToken_194 (by decide) lRX3_181 ?_
            refine p_X3_6 eX3_nextToken_197 lRX3_39 (by decide) ?_
            rw [tk_up6]
            refine xs_aload_0 eX3_nextToken_200 ?_
            refine xa_dup eX3_nextToken_201 rfl ?_
            refine gr_X3_8 eX3_nextToken_202 lRX3_51 (fun r202 => ?_)
            try simp (decide := true) only [tk_7, tk_8, tk_6, tk_9, tk_1, tk_4, tk_5, tk_24, hn, Int.toNat_natCast] at r202 ⊢
            refine xa_iconst eX3_nextToken_205 ?_
            refine xa_iadd eX3_nextToken_206 ?_
            refine p_X3_8 eX3_nextToken_207 lRX3_51 (by omega) ?_
            rw [tk_up8]
            exact xa_vret eX3_nextToken_210 rfl ⟨rfl, by first | (unfold tkE tkK tkV at hq; simp only [if_pos (show n ≤ q by omega)] at hq; exact hq) | (unfold tkE tkK tkV at hq; simp only [if_neg (show ¬ n ≤ q by omega), if_pos (show isL (S 24 0 q) by omega)] at hq; exact hq) | (unfold tkE tkK tkV at hq; simp only [if_neg (show ¬ n ≤ q by omega), if_neg (show ¬ isL (S 24 0 q) by omega), if_pos (show isD (S 24 0 q) by omega)] at hq; exact hq) | (unfold tkE tkK tkV at hq; simp only [if_neg (show ¬ n ≤ q by omega), if_neg (show ¬ isL (S 24 0 q) by omega), if_neg (show ¬ isD (S 24 0 q) by omega), if_pos (show S 24 0 q = 59 by omega)] at hq; exact hq) | (unfold tkE tkK tkV at hq; simp only [if_neg (show ¬ n ≤ q by omega), if_neg (show ¬ isL (S 24 0 q) by omega), if_neg (show ¬ isD (S 24 0 q) by omega), if_neg (show ¬ S 24 0 q = 59 by omega)] at hq; exact hq)⟩
          · refine xa_tok (i := 3) eX3_nextToken_188 (by decide) lRX3_159 ?_
            refine xa_goto (tgt := 197) eX3_nextToken_191 (by decide) ?_
            refine p_X3_6 eX3_nextToken_197 lRX3_39 (by decide) ?_
            rw [tk_up6]
            refine xs_aload_0 eX3_nextToken_200 ?_
            refine xa_dup eX3_nextToken_201 rfl ?_
            refine gr_X3_8 eX3_nextToken_202 lRX3_51 (fun r202 => ?_)
            try simp (decide := true) only [tk_7, tk_8, tk_6, tk_9, tk_1, tk_4, tk_5, tk_24, hn, Int.toNat_natCast] at r202 ⊢
            refine xa_iconst eX3_nextToken_205 ?_
            refine xa_iadd eX3_nextToken_206 ?_
            refine p_X3_8 eX3_nextToken_207 lRX3_51 (by omega) ?_
            rw [tk_up8]
            exact xa_vret eX3_nextToken_210 rfl ⟨rfl, by first | (unfold tkE tkK tkV at hq; simp only [if_pos (show n ≤ q by omega)] at hq; exact hq) | (unfold tkE tkK tkV at hq; simp only [if_neg (show ¬ n ≤ q by omega), if_pos (show isL (S 24 0 q) by omega)] at hq; exact hq) | (unfold tkE tkK tkV at hq; simp only [if_neg (show ¬ n ≤ q by omega), if_neg (show ¬ isL (S 24 0 q) by omega), if_pos (show isD (S 24 0 q) by omega)] at hq; exact hq) | (unfold tkE tkK tkV at hq; simp only [if_neg (show ¬ n ≤ q by omega), if_neg (show ¬ isL (S 24 0 q) by omega), if_neg (show ¬ isD (S 24 0 q) by omega), if_pos (show S 24 0 q = 59 by omega)] at hq; exact hq) | (unfold tkE tkK tkV at hq; simp only [if_neg (show ¬ n ≤ q by omega), if_neg (show ¬ isL (S 24 0 q) by omega), if_neg (show ¬ isD (S 24 0 q) by omega), if_neg (show ¬ S 24 0 q = 59 by omega)] at hq; exact hq)⟩
        · refine xs_aload_0 eX3_nextToken_145 ?_
          refine g_X3_0 eX3_nextToken_146 lRX3_9 ?_
          refine xs_aload_0 eX3_nextToken_149 ?_
          refine gr_X3_7 eX3_nextToken_150 lRX3_169 (fun r150 => ?_)
          try simp (decide := true) only [tk_7, tk_8, tk_6, tk_9, tk_1, tk_4, tk_5, tk_24, hn, Int.toNat_natCast] at r150 ⊢
          refine gar_24 eX3_nextToken_153 (by omega) (fun r153 => ?_)
          try simp (decide := true) only [tk_7, tk_8, tk_6, tk_9, tk_1, tk_4, tk_5, tk_24, hn, Int.toNat_natCast] at r153 ⊢
          refine xa_bipush eX3_nextToken_154 (by decide) ?_
          refine xa_icmp_gt (tgt := 173) eX3_nextToken_156 (by decide) (by omega) (by decide) (fun c156 => ?_) (fun c156 => ?_)
          · refine xs_aload_0 eX3_nextToken_173 ?_
            refine xs_aload_0 eX3_nextToken_174 ?_
            refine g_X3_0 eX3_nextToken_175 lRX3_9 ?_
            refine xs_aload_0 eX3_nextToken_178 ?_
            refine gr_X3_7 eX3_nextToken_179 lRX3_169 (fun r179 => ?_)
            try simp (decide := true) only [tk_7, tk_8, tk_6, tk_9, tk_1, tk_4, tk_5, tk_24, hn, Int.toNat_natCast] at r179 ⊢
            refine gar_24 eX3_nextToken_182 (by omega) (fun r182 => ?_)
            try simp (decide := true) only [tk_7, tk_8, tk_6, tk_9, tk_1, tk_4, tk_5, tk_24, hn, Int.toNat_natCast] at r182 ⊢
            refine xa_bipush eX3_nextToken_183 (by decide) ?_
            refine xa_icmp_ne (tgt := 194) eX3_nextToken_185 (by decide) (by omega) (by decide) (fun c185 => ?_) (fun c185 => ?_)
            · refine xa_tok (i := 4) eX3_nextToken_194 (by decide) lRX3_181 ?_
              refine p_X3_6 eX3_nextToken_197 lRX3_39 (by decide) ?_
              rw [tk_up6]
              refine xs_aload_0 eX3_nextToken_200 ?_
              refine xa_dup eX3_nextToken_201 rfl ?_
              refine gr_X3_8 eX3_nextToken_202 lRX3_51 (fun r202 => ?_)
              try simp (decide := true) only [tk_7, tk_8, tk_6, tk_9, tk_1, tk_4, tk_5, tk_24, hn, Int.toNat_natCast] at r202 ⊢
              refine xa_iconst eX3_nextToken_205 ?_
              refine xa_iadd eX3_nextToken_206 ?_
              refine p_X3_8 eX3_nextToken_207 lRX3_51 (by omega) ?_
              rw [tk_up8]
              exact xa_vret eX3_nextToken_210 rfl ⟨rfl, by first | (unfold tkE tkK tkV at hq; simp only [if_pos (show n ≤ q by omega)] at hq; exact hq) | (unfold tkE tkK tkV at hq; simp only [if_neg (show ¬ n ≤ q by omega), if_pos (show isL (S 24 0 q) by omega)] at hq; exact hq) | (unfold tkE tkK tkV at hq; simp only [if_neg (show ¬ n ≤ q by omega), if_neg (show ¬ isL (S 24 0 q) by omega), if_pos (show isD (S 24 0 q) by omega)] at hq; exact hq) | (unfold tkE tkK tkV at hq; simp only [if_neg (show ¬ n ≤ q by omega), if_neg (show ¬ isL (S 24 0 q) by omega), if_neg (show ¬ isD (S 24 0 q) by omega), if_pos (show S 24 0 q = 59 by omega)] at hq; exact hq) | (unfold tkE tkK tkV at hq; simp only [if_neg (show ¬ n ≤ q by omega), if_neg (show ¬ isL (S 24 0 q) by omega), if_neg (show ¬ isD (S 24 0 q) by omega), if_neg (show ¬ S 24 0 q = 59 by omega)] at hq; exact hq)⟩
            · refine xa_tok (i := 3) eX3_nextToken_188 (by decide) lRX3_159 ?_
              refine xa_goto (tgt := 197) eX3_nextToken_191 (by decide) ?_
              refine p_X3_6 eX3_nextToken_197 lRX3_39 (by decide) ?_
              rw [tk_up6]
              refine xs_aload_0 eX3_nextToken_200 ?_
              refine xa_dup eX3_nextToken_201 rfl ?_
              refine gr_X3_8 eX3_nextToken_202 lRX3_51 (fun r202 => ?_)
              try simp (decide := true) only [tk_7, tk_8, tk_6, tk_9, tk_1, tk_4, tk_5, tk_24, hn, Int.toNat_natCast] at r202 ⊢
              refine xa_iconst eX3_nextToken_205 ?_
              refine xa_iadd eX3_nextToken_206 ?_
              refine p_X3_8 eX3_nextToken_207 lRX3_51 (by omega) ?_
              rw [tk_up8]
              exact xa_vret eX3_nextToken_210 rfl ⟨rfl, by first | (unfold tkE tkK tkV at hq; simp only [if_pos (show n ≤ q by omega)] at hq; exact hq) | (unfold tkE tkK tkV at hq; simp only [if_neg (show ¬ n ≤ q by omega), if_pos (show isL (S 24 0 q) by omega)] at hq; exact hq) | (unfold tkE tkK tkV at hq; simp only [if_neg (show ¬ n ≤ q by omega), if_neg (show ¬ isL (S 24 0 q) by omega), if_pos (show isD (S 24 0 q) by omega)] at hq; exact hq) | (unfold tkE tkK tkV at hq; simp only [if_neg (show ¬ n ≤ q by omega), if_neg (show ¬ isL (S 24 0 q) by omega), if_neg (show ¬ isD (S 24 0 q) by omega), if_pos (show S 24 0 q = 59 by omega)] at hq; exact hq) | (unfold tkE tkK tkV at hq; simp only [if_neg (show ¬ n ≤ q by omega), if_neg (show ¬ isL (S 24 0 q) by omega), if_neg (show ¬ isD (S 24 0 q) by omega), if_neg (show ¬ S 24 0 q = 59 by omega)] at hq; exact hq)⟩
          · refine xs_aload_0 eX3_nextToken_159 ?_
            refine xa_tok (i := 2) eX3_nextToken_160 (by decide) lRX3_162 ?_
            refine p_X3_6 eX3_nextToken_163 lRX3_39 (by decide) ?_
            rw [tk_up6]
            refine xs_aload_0 eX3_nextToken_166 ?_
            refine xbv_V00 (mi' := mX3_passNumber) (y := yX3_passNumber) eX3_nextToken_167 (xw_5 lRX3_178 wy_X3_passNumber) rfl ⟨wd_X3_passNumber, by decide, by decide⟩ (by decide) (fun _ => rfl) rfl (Nat.le_of_ble_eq_true rfl) rfl (k_X3_passNumber hn h7 (by omega) ?_)
            refine xa_goto (tgt := 210) eX3_nextToken_170 (by decide) ?_
            exact xa_vret eX3_nextToken_210 rfl ⟨rfl, by first | (unfold tkE tkK tkV at hq; simp only [if_pos (show n ≤ q by omega)] at hq; exact hq) | (unfold tkE tkK tkV at hq; simp only [if_neg (show ¬ n ≤ q by omega), if_pos (show isL (S 24 0 q) by omega)] at hq; exact hq) | (unfold tkE tkK tkV at hq; simp only [if_neg (show ¬ n ≤ q by omega), if_neg (show ¬ isL (S 24 0 q) by omega), if_pos (show isD (S 24 0 q) by omega)] at hq; exact hq) | (unfold tkE tkK tkV at hq; simp only [if_neg (show ¬ n ≤ q by omega), if_neg (show ¬ isL (S 24 0 q) by omega), if_neg (show ¬ isD (S 24 0 q) by omega), if_pos (show S 24 0 q = 59 by omega)] at hq; exact hq) | (unfold tkE tkK tkV at hq; simp only [if_neg (show ¬ n ≤ q by omega), if_neg (show ¬ isL (S 24 0 q) by omega), if_neg (show ¬ isD (S 24 0 q) by omega), if_neg (show ¬ S 24 0 q = 59 by omega)] at hq; exact hq)⟩
      · refine xs_aload_0 eX3_nextToken_103 ?_
        refine g_X3_0 eX3_nextToken_104 lRX3_9 ?_
        refine xs_aload_0 eX3_nextToken_107 ?_
        refine gr_X3_7 eX3_nextToken_108 lRX3_169 (fun r108 => ?_)
        try simp (decide := true) only [tk_7, tk_8, tk_6, tk_9, tk_1, tk_4, tk_5, tk_24, hn, Int.toNat_natCast] at r108 ⊢
        refine gar_24 eX3_nextToken_111 (by omega) (fun r111 => ?_)
        try simp (decide := true) only [tk_7, tk_8, tk_6, tk_9, tk_1, tk_4, tk_5, tk_24, hn, Int.toNat_natCast] at r111 ⊢
        refine xa_bipush eX3_nextToken_112 (by decide) ?_
        refine xa_icmp_gt (tgt := 131) eX3_nextToken_114 (by decide) (by omega) (by decide) (fun c114 => ?_) (fun c114 => ?_)
        · refine xs_aload_0 eX3_nextToken_131 ?_
          refine g_X3_0 eX3_nextToken_132 lRX3_9 ?_
          refine xs_aload_0 eX3_nextToken_135 ?_
          refine gr_X3_7 eX3_nextToken_136 lRX3_169 (fun r136 => ?_)
          try simp (decide := true) only [tk_7, tk_8, tk_6, tk_9, tk_1, tk_4, tk_5, tk_24, hn, Int.toNat_natCast] at r136 ⊢
          refine gar_24 eX3_nextToken_139 (by omega) (fun r139 => ?_)
          try simp (decide := true) only [tk_7, tk_8, tk_6, tk_9, tk_1, tk_4, tk_5, tk_24, hn, Int.toNat_natCast] at r139 ⊢
          refine xa_bipush eX3_nextToken_140 (by decide) ?_
          refine xa_icmp_lt (tgt := 173) eX3_nextToken_142 (by decide) (by omega) (by decide) (fun c142 => ?_) (fun c142 => ?_)
          · refine xs_aload_0 eX3_nextToken_173 ?_
            refine xs_aload_0 eX3_nextToken_174 ?_
            refine g_X3_0 eX3_nextToken_175 lRX3_9 ?_
            refine xs_aload_0 eX3_nextToken_178 ?_
            refine gr_X3_7 eX3_nextToken_179 lRX3_169 (fun r179 => ?_)
            try simp (decide := true) only [tk_7, tk_8, tk_6, tk_9, tk_1, tk_4, tk_5, tk_24, hn, Int.toNat_natCast] at r179 ⊢
            refine gar_24 eX3_nextToken_182 (by omega) (fun r182 => ?_)
            try simp (decide := true) only [tk_7, tk_8, tk_6, tk_9, tk_1, tk_4, tk_5, tk_24, hn, Int.toNat_natCast] at r182 ⊢
            refine xa_bipush eX3_nextToken_183 (by decide) ?_
            refine xa_icmp_ne (tgt := 194) eX3_nextToken_185 (by decide) (by omega) (by decide) (fun c185 => ?_) (fun c185 => ?_)
            · refine xa_tok (i := 4) eX3_nextToken_194 (by decide) lRX3_181 ?_
              refine p_X3_6 eX3_nextToken_197 lRX3_39 (by decide) ?_
              rw [tk_up6]
              refine xs_aload_0 eX3_nextToken_200 ?_
              refine xa_dup eX3_nextToken_201 rfl ?_
              refine gr_X3_8 eX3_nextToken_202 lRX3_51 (fun r202 => ?_)
              try simp (decide := true) only [tk_7, tk_8, tk_6, tk_9, tk_1, tk_4, tk_5, tk_24, hn, Int.toNat_natCast] at r202 ⊢
              refine xa_iconst eX3_nextToken_205 ?_
              refine xa_iadd eX3_nextToken_206 ?_
              refine p_X3_8 eX3_nextToken_207 lRX3_51 (by omega) ?_
              rw [tk_up8]
              exact xa_vret eX3_nextToken_210 rfl ⟨rfl, by first | (unfold tkE tkK tkV at hq; simp only [if_pos (show n ≤ q by omega)] at hq; exact hq) | (unfold tkE tkK tkV at hq; simp only [if_neg (show ¬ n ≤ q by omega), if_pos (show isL (S 24 0 q) by omega)] at hq; exact hq) | (unfold tkE tkK tkV at hq; simp only [if_neg (show ¬ n ≤ q by omega), if_neg (show ¬ isL (S 24 0 q) by omega), if_pos (show isD (S 24 0 q) by omega)] at hq; exact hq) | (unfold tkE tkK tkV at hq; simp only [if_neg (show ¬ n ≤ q by omega), if_neg (show ¬ isL (S 24 0 q) by omega), if_neg (show ¬ isD (S 24 0 q) by omega), if_pos (show S 24 0 q = 59 by omega)] at hq; exact hq) | (unfold tkE tkK tkV at hq; simp only [if_neg (show ¬ n ≤ q by omega), if_neg (show ¬ isL (S 24 0 q) by omega), if_neg (show ¬ isD (S 24 0 q) by omega), if_neg (show ¬ S 24 0 q = 59 by omega)] at hq; exact hq)⟩
            · refine xa_tok (i := 3) eX3_nextToken_188 (by decide) lRX3_159 ?_
              refine xa_goto (tgt := 197) eX3_nextToken_191 (by decide) ?_
              refine p_X3_6 eX3_nextToken_197 lRX3_39 (by decide) ?_
              rw [tk_up6]
              refine xs_aload_0 eX3_nextToken_200 ?_
              refine xa_dup eX3_nextToken_201 rfl ?_
              refine gr_X3_8 eX3_nextToken_202 lRX3_51 (fun r202 => ?_)
              try simp (decide := true) only [tk_7, tk_8, tk_6, tk_9, tk_1, tk_4, tk_5, tk_24, hn, Int.toNat_natCast] at r202 ⊢
              refine xa_iconst eX3_nextToken_205 ?_
              refine xa_iadd eX3_nextToken_206 ?_
              refine p_X3_8 eX3_nextToken_207 lRX3_51 (by omega) ?_
              rw [tk_up8]
              exact xa_vret eX3_nextToken_210 rfl ⟨rfl, by first | (unfold tkE tkK tkV at hq; simp only [if_pos (show n ≤ q by omega)] at hq; exact hq) | (unfold tkE tkK tkV at hq; simp only [if_neg (show ¬ n ≤ q by omega), if_pos (show isL (S 24 0 q) by omega)] at hq; exact hq) | (unfold tkE tkK tkV at hq; simp only [if_neg (show ¬ n ≤ q by omega), if_neg (show ¬ isL (S 24 0 q) by omega), if_pos (show isD (S 24 0 q) by omega)] at hq; exact hq) | (unfold tkE tkK tkV at hq; simp only [if_neg (show ¬ n ≤ q by omega), if_neg (show ¬ isL (S 24 0 q) by omega), if_neg (show ¬ isD (S 24 0 q) by omega), if_pos (show S 24 0 q = 59 by omega)] at hq; exact hq) | (unfold tkE tkK tkV at hq; simp only [if_neg (show ¬ n ≤ q by omega), if_neg (show ¬ isL (S 24 0 q) by omega), if_neg (show ¬ isD (S 24 0 q) by omega), if_neg (show ¬ S 24 0 q = 59 by omega)] at hq; exact hq)⟩
          · refine xs_aload_0 eX3_nextToken_145 ?_
            refine g_X3_0 eX3_nextToken_146 lRX3_9 ?_
            refine xs_aload_0 eX3_nextToken_149 ?_
            refine gr_X3_7 eX3_nextToken_150 lRX3_169 (fun r150 => ?_)
            try simp (decide := true) only [tk_7, tk_8, tk_6, tk_9, tk_1, tk_4, tk_5, tk_24, hn, Int.toNat_natCast] at r150 ⊢
            refine gar_24 eX3_nextToken_153 (by omega) (fun r153 => ?_)
            try simp (decide := true) only [tk_7, tk_8, tk_6, tk_9, tk_1, tk_4, tk_5, tk_24, hn, Int.toNat_natCast] at r153 ⊢
            refine xa_bipush eX3_nextToken_154 (by decide) ?_
            refine xa_icmp_gt (tgt := 173) eX3_nextToken_156 (by decide) (by omega) (by decide) (fun c156 => ?_) (fun c156 => ?_)
            · refine xs_aload_0 eX3_nextToken_173 ?_
              refine xs_aload_0 eX3_nextToken_174 ?_
              refine g_X3_0 eX3_nextToken_175 lRX3_9 ?_
              refine xs_aload_0 eX3_nextToken_178 ?_
              refine gr_X3_7 eX3_nextToken_179 lRX3_169 (fun r179 => ?_)
              try simp (decide := true) only [tk_7, tk_8, tk_6, tk_9, tk_1, tk_4, tk_5, tk_24, hn, Int.toNat_natCast] at r179 ⊢
              refine gar_24 eX3_nextToken_182 (by omega) (fun r182 => ?_)
              try simp (decide := true) only [tk_7, tk_8, tk_6, tk_9, tk_1, tk_4, tk_5, tk_24, hn, Int.toNat_natCast] at r182 ⊢
              refine xa_bipush eX3_nextToken_183 (by decide) ?_
              refine xa_icmp_ne (tgt := 194) eX3_nextToken_185 (by decide) (by omega) (by decide) (fun c185 => ?_) (fun c185 => ?_)
              · refine xa_tok (i := 4) eX3_nextToken_194 (by decide) lRX3_181 ?_
                refine p_X3_6 eX3_nextToken_197 lRX3_39 (by decide) ?_
                rw [tk_up6]
                refine xs_aload_0 eX3_nextToken_200 ?_
                refine xa_dup eX3_nextToken_201 rfl ?_
                refine gr_X3_8 eX3_nextToken_202 lRX3_51 (fun r202 => ?_)
                try simp (decide := true) only [tk_7, tk_8, tk_6, tk_9, tk_1, tk_4, tk_5, tk_24, hn, Int.toNat_natCast] at r202 ⊢
                refine xa_iconst eX3_nextToken_205 ?_
                refine xa_iadd eX3_nextToken_206 ?_
                refine p_X3_8 eX3_nextToken_207 lRX3_51 (by omega) ?_
                rw [tk_up8]
                exact xa_vret eX3_nextToken_210 rfl ⟨rfl, by first | (unfold tkE tkK tkV at hq; simp only [if_pos (show n ≤ q by omega)] at hq; exact hq) | (unfold tkE tkK tkV at hq; simp only [if_neg (show ¬ n ≤ q by omega), if_pos (show isL (S 24 0 q) by omega)] at hq; exact hq) | (unfold tkE tkK tkV at hq; simp only [if_neg (show ¬ n ≤ q by omega), if_neg (show ¬ isL (S 24 0 q) by omega), if_pos (show isD (S 24 0 q) by omega)] at hq; exact hq) | (unfold tkE tkK tkV at hq; simp only [if_neg (show ¬ n ≤ q by omega), if_neg (show ¬ isL (S 24 0 q) by omega), if_neg (show ¬ isD (S 24 0 q) by omega), if_pos (show S 24 0 q = 59 by omega)] at hq; exact hq) | (unfold tkE tkK tkV at hq; simp only [if_neg (show ¬ n ≤ q by omega), if_neg (show ¬ isL (S 24 0 q) by omega), if_neg (show ¬ isD (S 24 0 q) by omega), if_neg (show ¬ S 24 0 q = 59 by omega)] at hq; exact hq)⟩
              · refine xa_tok (i := 3) eX3_nextToken_188 (by decide) lRX3_159 ?_
                refine xa_goto (tgt := 197) eX3_nextToken_191 (by decide) ?_
                refine p_X3_6 eX3_nextToken_197 lRX3_39 (by decide) ?_
                rw [tk_up6]
                refine xs_aload_0 eX3_nextToken_200 ?_
                refine xa_dup eX3_nextToken_201 rfl ?_
                refine gr_X3_8 eX3_nextToken_202 lRX3_51 (fun r202 => ?_)
                try simp (decide := true) only [tk_7, tk_8, tk_6, tk_9, tk_1, tk_4, tk_5, tk_24, hn, Int.toNat_natCast] at r202 ⊢
                refine xa_iconst eX3_nextToken_205 ?_
                refine xa_iadd eX3_nextToken_206 ?_
                refine p_X3_8 eX3_nextToken_207 lRX3_51 (by omega) ?_
                rw [tk_up8]
                exact xa_vret eX3_nextToken_210 rfl ⟨rfl, by first | (unfold tkE tkK tkV at hq; simp only [if_pos (show n ≤ q by omega)] at hq; exact hq) | (unfold tkE tkK tkV at hq; simp only [if_neg (show ¬ n ≤ q by omega), if_pos (show isL (S 24 0 q) by omega)] at hq; exact hq) | (unfold tkE tkK tkV at hq; simp only [if_neg (show ¬ n ≤ q by omega), if_neg (show ¬ isL (S 24 0 q) by omega), if_pos (show isD (S 24 0 q) by omega)] at hq; exact hq) | (unfold tkE tkK tkV at hq; simp only [if_neg (show ¬ n ≤ q by omega), if_neg (show ¬ isL (S 24 0 q) by omega), if_neg (show ¬ isD (S 24 0 q) by omega), if_pos (show S 24 0 q = 59 by omega)] at hq; exact hq) | (unfold tkE tkK tkV at hq; simp only [if_neg (show ¬ n ≤ q by omega), if_neg (show ¬ isL (S 24 0 q) by omega), if_neg (show ¬ isD (S 24 0 q) by omega), if_neg (show ¬ S 24 0 q = 59 by omega)] at hq; exact hq)⟩
            · refine xs_aload_0 eX3_nextToken_159 ?_
              refine xa_tok (i := 2) eX3_nextToken_160 (by decide) lRX3_162 ?_
              refine p_X3_6 eX3_nextToken_163 lRX3_39 (by decide) ?_
              rw [tk_up6]
              refine xs_aload_0 eX3_nextToken_166 ?_
              refine xbv_V00 (mi' := mX3_passNumber) (y := yX3_passNumber) eX3_nextToken_167 (xw_5 lRX3_178 wy_X3_passNumber) rfl ⟨wd_X3_passNumber, by decide, by decide⟩ (by decide) (fun _ => rfl) rfl (Nat.le_of_ble_eq_true rfl) rfl (k_X3_passNumber hn h7 (by omega) ?_)
              refine xa_goto (tgt := 210) eX3_nextToken_170 (by decide) ?_
              exact xa_vret eX3_nextToken_210 rfl ⟨rfl, by first | (unfold tkE tkK tkV at hq; simp only [if_pos (show n ≤ q by omega)] at hq; exact hq) | (unfold tkE tkK tkV at hq; simp only [if_neg (show ¬ n ≤ q by omega), if_pos (show isL (S 24 0 q) by omega)] at hq; exact hq) | (unfold tkE tkK tkV at hq; simp only [if_neg (show ¬ n ≤ q by omega), if_neg (show ¬ isL (S 24 0 q) by omega), if_pos (show isD (S 24 0 q) by omega)] at hq; exact hq) | (unfold tkE tkK tkV at hq; simp only [if_neg (show ¬ n ≤ q by omega), if_neg (show ¬ isL (S 24 0 q) by omega), if_neg (show ¬ isD (S 24 0 q) by omega), if_pos (show S 24 0 q = 59 by omega)] at hq; exact hq) | (unfold tkE tkK tkV at hq; simp only [if_neg (show ¬ n ≤ q by omega), if_neg (show ¬ isL (S 24 0 q) by omega), if_neg (show ¬ isD (S 24 0 q) by omega), if_neg (show ¬ S 24 0 q = 59 by omega)] at hq; exact hq)⟩
        · refine xs_aload_0 eX3_nextToken_117 ?_
          refine xa_tok (i := 1) eX3_nextToken_118 (by decide) lRX3_172 ?_
          refine p_X3_6 eX3_nextToken_121 lRX3_39 (by decide) ?_
          rw [tk_up6]
          refine xs_aload_0 eX3_nextToken_124 ?_
          refine xbv_V00 (mi' := mX3_passWord) (y := yX3_passWord) eX3_nextToken_125 (xw_5 lRX3_175 wy_X3_passWord) rfl ⟨wd_X3_passWord, by decide, by decide⟩ (by decide) (fun _ => rfl) rfl (Nat.le_of_ble_eq_true rfl) rfl (k_X3_passWord hn h7 (by omega) ?_)
          refine xa_goto (tgt := 210) eX3_nextToken_128 (by decide) ?_
          exact xa_vret eX3_nextToken_210 rfl ⟨rfl, by first | (unfold tkE tkK tkV at hq; simp only [if_pos (show n ≤ q by omega)] at hq; exact hq) | (unfold tkE tkK tkV at hq; simp only [if_neg (show ¬ n ≤ q by omega), if_pos (show isL (S 24 0 q) by omega)] at hq; exact hq) | (unfold tkE tkK tkV at hq; simp only [if_neg (show ¬ n ≤ q by omega), if_neg (show ¬ isL (S 24 0 q) by omega), if_pos (show isD (S 24 0 q) by omega)] at hq; exact hq) | (unfold tkE tkK tkV at hq; simp only [if_neg (show ¬ n ≤ q by omega), if_neg (show ¬ isL (S 24 0 q) by omega), if_neg (show ¬ isD (S 24 0 q) by omega), if_pos (show S 24 0 q = 59 by omega)] at hq; exact hq) | (unfold tkE tkK tkV at hq; simp only [if_neg (show ¬ n ≤ q by omega), if_neg (show ¬ isL (S 24 0 q) by omega), if_neg (show ¬ isD (S 24 0 q) by omega), if_neg (show ¬ S 24 0 q = 59 by omega)] at hq; exact hq)⟩
    · refine xs_aload_0 eX3_nextToken_79 ?_
      refine xa_tok (i := 0) eX3_nextToken_80 (by decide) lRX3_33 ?_
      refine p_X3_6 eX3_nextToken_83 lRX3_39 (by decide) ?_
      rw [tk_up6]
      refine xa_goto (tgt := 210) eX3_nextToken_86 (by decide) ?_
      exact xa_vret eX3_nextToken_210 rfl ⟨rfl, by first | (unfold tkE tkK tkV at hq; simp only [if_pos (show n ≤ q by omega)] at hq; exact hq) | (unfold tkE tkK tkV at hq; simp only [if_neg (show ¬ n ≤ q by omega), if_pos (show isL (S 24 0 q) by omega)] at hq; exact hq) | (unfold tkE tkK tkV at hq; simp only [if_neg (show ¬ n ≤ q by omega), if_neg (show ¬ isL (S 24 0 q) by omega), if_pos (show isD (S 24 0 q) by omega)] at hq; exact hq) | (unfold tkE tkK tkV at hq; simp only [if_neg (show ¬ n ≤ q by omega), if_neg (show ¬ isL (S 24 0 q) by omega), if_neg (show ¬ isD (S 24 0 q) by omega), if_pos (show S 24 0 q = 59 by omega)] at hq; exact hq) | (unfold tkE tkK tkV at hq; simp only [if_neg (show ¬ n ≤ q by omega), if_neg (show ¬ isL (S 24 0 q) by omega), if_neg (show ¬ isD (S 24 0 q) by omega), if_neg (show ¬ S 24 0 q = 59 by omega)] at hq; exact hq)⟩
  have lp : ∀ q : Nat, q ≤ n → spF (S 24 0) (n - q) q = spF (S 24 0) (n - p) p → X w mX3_nextToken (xTG w (fun v S' => v = none ∧ A S') B) 0 0 8 [xp 3 0] [] (tk S (q : Int) (p : Int) k v) := by
    refine nloop n (fun q hqn ih hr => ?_)
    refine xs_aload_0 eX3_nextToken_8 ?_
    refine gr_X3_7 eX3_nextToken_9 lRX3_169 (fun r9 => ?_)
    try simp (decide := true) only [tk_7, tk_8, tk_6, tk_9, tk_1, tk_4, tk_5, tk_24, hn, Int.toNat_natCast] at r9 ⊢
    refine xs_aload_0 eX3_nextToken_12 ?_
    refine gr_X3_1 eX3_nextToken_13 lRX3_42 (fun r13 => ?_)
    try simp (decide := true) only [tk_7, tk_8, tk_6, tk_9, tk_1, tk_4, tk_5, tk_24, hn, Int.toNat_natCast] at r13 ⊢
    refine xa_icmp_ge (tgt := 60) eX3_nextToken_16 (by decide) (by omega) (by omega) (fun c16 => ?_) (fun c16 => ?_)
    · exact tl q hqn (by rw [← hr, spF_n (by omega)])
    · refine xs_aload_0 eX3_nextToken_19 ?_
      refine g_X3_0 eX3_nextToken_20 lRX3_9 ?_
      refine xs_aload_0 eX3_nextToken_23 ?_
      refine gr_X3_7 eX3_nextToken_24 lRX3_169 (fun r24 => ?_)
      try simp (decide := true) only [tk_7, tk_8, tk_6, tk_9, tk_1, tk_4, tk_5, tk_24, hn, Int.toNat_natCast] at r24 ⊢
      refine gar_24 eX3_nextToken_27 (by omega) (fun r27 => ?_)
      try simp (decide := true) only [tk_7, tk_8, tk_6, tk_9, tk_1, tk_4, tk_5, tk_24, hn, Int.toNat_natCast] at r27 ⊢
      refine xa_bipush eX3_nextToken_28 (by decide) ?_
      refine xa_icmp_eq (tgt := 47) eX3_nextToken_30 (by decide) (by omega) (by decide) (fun c30 => ?_) (fun c30 => ?_)
      · refine xs_aload_0 eX3_nextToken_47 ?_
        refine xa_dup eX3_nextToken_48 rfl ?_
        refine gr_X3_7 eX3_nextToken_49 lRX3_169 (fun r49 => ?_)
        try simp (decide := true) only [tk_7, tk_8, tk_6, tk_9, tk_1, tk_4, tk_5, tk_24, hn, Int.toNat_natCast] at r49 ⊢
        refine xa_iconst eX3_nextToken_52 ?_
        refine xa_iadd eX3_nextToken_53 ?_
        refine p_X3_7 eX3_nextToken_54 lRX3_169 (by omega) ?_
        rw [tk_up7]
        refine xa_goto (tgt := 8) eX3_nextToken_57 (by decide) ?_
        have h9 := ih (q + 1) (by omega) (by omega) (by rw [← hr, spF_s (p := q) (by omega), if_pos (by omega)])
        rw [show ((q + 1 : Nat) : Int) = (q : Int) + 1 by omega] at h9
        exact h9
      · refine xs_aload_0 eX3_nextToken_33 ?_
        refine g_X3_0 eX3_nextToken_34 lRX3_9 ?_
        refine xs_aload_0 eX3_nextToken_37 ?_
        refine gr_X3_7 eX3_nextToken_38 lRX3_169 (fun r38 => ?_)
        try simp (decide := true) only [tk_7, tk_8, tk_6, tk_9, tk_1, tk_4, tk_5, tk_24, hn, Int.toNat_natCast] at r38 ⊢
        refine gar_24 eX3_nextToken_41 (by omega) (fun r41 => ?_)
        try simp (decide := true) only [tk_7, tk_8, tk_6, tk_9, tk_1, tk_4, tk_5, tk_24, hn, Int.toNat_natCast] at r41 ⊢
        refine xa_bipush eX3_nextToken_42 (by decide) ?_
        refine xa_icmp_ne (tgt := 60) eX3_nextToken_44 (by decide) (by omega) (by decide) (fun c44 => ?_) (fun c44 => ?_)
        · exact tl q hqn (by rw [← hr, spF_s (by omega), if_neg (by omega)])
        · refine xs_aload_0 eX3_nextToken_47 ?_
          refine xa_dup eX3_nextToken_48 rfl ?_
          refine gr_X3_7 eX3_nextToken_49 lRX3_169 (fun r49 => ?_)
          try simp (decide := true) only [tk_7, tk_8, tk_6, tk_9, tk_1, tk_4, tk_5, tk_24, hn, Int.toNat_natCast] at r49 ⊢
          refine xa_iconst eX3_nextToken_52 ?_
          refine xa_iadd eX3_nextToken_53 ?_
          refine p_X3_7 eX3_nextToken_54 lRX3_169 (by omega) ?_
          rw [tk_up7]
          refine xa_goto (tgt := 8) eX3_nextToken_57 (by decide) ?_
          have h9 := ih (q + 1) (by omega) (by omega) (by rw [← hr, spF_s (p := q) (by omega), if_pos (by omega)])
          rw [show ((q + 1 : Nat) : Int) = (q : Int) + 1 by omega] at h9
          exact h9
  refine xs_aload_0 eX3_nextToken_0 ?_
  refine xs_aload_0 eX3_nextToken_1 ?_
  refine gr_X3_8 eX3_nextToken_2 lRX3_51 (fun r2 => ?_)
  try simp (decide := true) only [tk_7, tk_8, tk_6, tk_9, tk_1, tk_4, tk_5, tk_24, hn, Int.toNat_natCast] at r2 ⊢
  refine p_X3_7 eX3_nextToken_5 lRX3_169 (by omega) ?_
  rw [tk_up7]
  exact lp p hp rfl
