/-! at the time 0: what is accepted is bounded -/
theorem an_le {N : Nat} {b r p e W : Nat → Nat} {d : Nat} : ∀ k : Nat, sn (AN N b r p e d) k ≤ VN N b r p e W d k + k
  | 0 => Nat.zero_le _
  | k + 1 => by
    have h := an_le (N := N) (b := b) (r := r) (p := p) (e := e) (W := W) (d := d) k
    show sn (AN N b r p e d) k + AN N b r p e d k ≤ VN N b r p e W d k + AN N b r p e d k - 1 + (k + 1)
    omega
theorem cnt_mul {p : Nat} (hp : 0 < p) : ∀ n : Nat, sn (fun i => if i % p = 0 then 1 else 0) (n + 1) = n / p + 1
  | 0 => by show 0 + (if 0 % p = 0 then 1 else 0) = _; rw [if_pos (Nat.zero_mod p), Nat.zero_div]
  | n + 1 => by
    show sn (fun i => if i % p = 0 then 1 else 0) (n + 1) + (if (n + 1) % p = 0 then 1 else 0) = _
    rw [cnt_mul hp n, Nat.succ_div]
    by_cases c : p ∣ n + 1
    · rw [if_pos c, if_pos (Nat.mod_eq_zero_of_dvd c)]
    · rw [if_neg c, if_neg (fun z => c (Nat.dvd_of_mod_eq_zero z))]
theorem dem_le {p b d k : Nat} (hp : 0 < p) (hd : 1 ≤ d) : (if (k : Int) < d then (0 : Int) else b * (Int.tdiv ((k : Int) - d) p + 1)) ≤ ((sn (fun i => if rlN 0 p i = true ∧ i + d ≤ k then b else 0) k : Nat) : Int) := by
  by_cases c : (k : Int) < d
  · rw [if_pos c]; omega
  · rw [if_neg c]
    have e1 : sn (fun i => if rlN 0 p i = true ∧ i + d ≤ k then b else 0) k = b * sn (fun i => if i % p = 0 then 1 else 0) (k - d + 1) := by
      rw [← sn_mul, sn_win (a := 0) (k := k - d + 1) (by omega) (fun i hi => absurd hi (Nat.not_lt_zero i)) (fun i hi => by rw [if_neg (by omega)])]
      refine sn_congr (fun i hi => ?_)
      have hr : rlN 0 p (0 + i) = true ↔ i % p = 0 := by rw [rlN_iff, Nat.zero_add, Nat.sub_zero]; exact ⟨fun z => z.2, fun z => ⟨Nat.zero_le _, z⟩⟩
      by_cases c2 : i % p = 0
      · rw [if_pos ⟨hr.mpr c2, by omega⟩, if_pos c2]; omega
      · rw [if_neg (fun z => c2 (hr.mp z.1)), if_neg c2]; omega
    rw [e1, cnt_mul hp]
    have e2 : Int.tdiv ((k : Int) - d) p = ((k - d : Nat) : Int) / (p : Int) := by
      rw [Int.tdiv_eq_ediv_of_nonneg (by omega)]
      congr 1
      omega
    rw [e2]
    have e3 : (((k - d) / p : Nat) : Int) = ((k - d : Nat) : Int) / (p : Int) := Int.natCast_ediv _ _
    rw [← e3]
    have e4 : ((b * ((k - d) / p + 1) : Nat) : Int) = (b : Int) * ((((k - d) / p : Nat) : Int) + 1) := by
      rw [Int.natCast_mul]; rfl
    rw [e4]
    exact Int.le_refl _
/-- the demand is at most what comes -/
theorem dem_sn {N k : Nat} {C : xS} (hL : LR 0 (rwT 0 C) N) (h5 : ∀ j, j < N → C 10 j 0 = 0 → C 10 j 5 = 0) : demF 0 N (k : Int) C ≤ ((sn (AN N (lb (rwT 0 C)) (lr 0 (rwT 0 C)) (lp (rwT 0 C)) (ld (rwT 0 C)) k) k : Nat) : Int) := by
  unfold AN
  rw [sn_swap]
  unfold demF
  rw [show ((sn (fun j => sn (fun i => if rlN (lr 0 (rwT 0 C) j) (lp (rwT 0 C) j) i = true ∧ i + ld (rwT 0 C) j ≤ k then lb (rwT 0 C) j else 0) k) N : Nat) : Int) = sm (fun j => ((sn (fun i => if rlN (lr 0 (rwT 0 C) j) (lp (rwT 0 C) j) i = true ∧ i + ld (rwT 0 C) j ≤ k then lb (rwT 0 C) j else 0) k : Nat) : Int)) N from (sm_sn (fun j _ => rfl)).symm]
  refine sm_mono (fun j hj => ?_)
  have hq := hL j hj
  unfold LQ at hq
  obtain ⟨a1, a2, a3, a4, a5, a6⟩ := hq
  have er : rwT 0 C j = C 10 j := by unfold rwT; rw [e32]
  rw [er] at a1 a2 a3 a4
  have hpp := per_N a2
  rw [e32]
  by_cases c : C 10 j 0 = 0
  · rw [if_pos c]
    have hx : xdem (k : Int) (C 10 j) = if (k : Int) < ((C 10 j 4).toNat : Nat) then (0 : Int) else ((C 10 j 3).toNat : Nat) * (Int.tdiv ((k : Int) - ((C 10 j 4).toNat : Nat)) ((C 10 j 2).toNat : Nat) + 1) := by
      unfold xdem
      rw [Int.toNat_of_nonneg (show 0 ≤ C 10 j 4 by omega), Int.toNat_of_nonneg (show 0 ≤ C 10 j 3 by omega), Int.toNat_of_nonneg (show 0 ≤ C 10 j 2 by omega)]
      by_cases c2 : (k : Int) < C 10 j 4
      · rw [if_pos c2, if_pos (Or.inl c2)]
      · rw [if_neg c2, if_neg (by omega)]
    have e1 : lr 0 (rwT 0 C) j = 0 := by unfold lr; rw [er, h5 j hj c]; rfl
    have e2 : lp (rwT 0 C) j = (C 10 j 2).toNat := by unfold lp; rw [er]
    have e3 : ld (rwT 0 C) j = (C 10 j 4).toNat := by unfold ld; rw [er]
    have e4 : lb (rwT 0 C) j = (C 10 j 3).toNat := by unfold lb; rw [er, if_pos c]
    rw [hx, e1, e2, e3, e4]
    exact dem_le hpp.2.1 (by omega)
  · rw [if_neg c]; omega
theorem zero_bdd {N : Nat} {p b d : Int} {C : xS} (g : Fut 0 N C) (h0 : C 2 0 2 = 0) (h5 : ∀ j, j < N → C 10 j 0 = 0 → C 10 j 5 = 0) (hp : perP p) (hb : 1 ≤ b ∧ b ≤ d ∧ d ≤ p) (h : accF 0 5 N p b d C = true) : bddF N p b d C 240 = true := by
  refine (bddF_iff 240).mpr (fun k h1 _ => ?_)
  have hf := Fut.acc h g.1 hp hb (-1)
  obtain ⟨a1, a2, a3, a4⟩ := add_at (N := N) (o := -1) (p := p) (b := b) (d := d) (C := C)
  generalize addT 0 N (-1) p b d C = D at hf a1 a2 a3 a4
  have hL := hf.1
  rw [a2, h0] at hL
  have hv := hf.2.2 (k - 1)
  rw [a2, h0, show k - 1 + 1 = k by omega] at hv
  have h5D : ∀ j, j < N + 1 → D 10 j 0 = 0 → D 10 j 5 = 0 := fun j hj => by
    by_cases c : j = N
    · subst c; rw [a4, h0]; exact fun _ => rfl
    · rw [a3 j c]; exact h5 j (by omega)
  have hd := dem_sn (k := k) hL h5D
  have ha := an_le (N := N + 1) (b := lb (rwT 0 D)) (r := lr 0 (rwT 0 D)) (p := lp (rwT 0 D)) (e := ld (rwT 0 D)) (W := lW 0 (rwT 0 D) (N + 1)) (d := k) k
  have hv2 : VN (N + 1) (lb (rwT 0 D)) (lr 0 (rwT 0 D)) (lp (rwT 0 D)) (ld (rwT 0 D)) (lW 0 (rwT 0 D) (N + 1)) k k = 0 := hv
  have e1 : demF 0 (N + 1) (k : Int) D = demF 0 N (k : Int) C + dmd p b d (k : Int) := by
    have e2 : demF 0 (N + 1) (k : Int) D = demF 0 N (k : Int) D + (if D 10 (32 * 0 + N) 0 = 0 then xdem (k : Int) (D 10 (32 * 0 + N)) else 0) := rfl
    have e3 : demF 0 N (k : Int) D = demF 0 N (k : Int) C := sm_congr (fun j hj => by rw [e32, a3 j (by omega)])
    rw [e2, e3, e32, a4]
    congr 1
    rw [if_pos (show xbeg (-1) p b d (C 2 0 2) 0 = 0 from rfl)]
    unfold xdem dmd
    have q2 : xbeg (-1) p b d (C 2 0 2) 2 = p := rfl
    have q3 : xbeg (-1) p b d (C 2 0 2) 3 = b := rfl
    have q4 : xbeg (-1) p b d (C 2 0 2) 4 = d := rfl
    rw [q2, q3, q4]
    have := hp.1
    by_cases c : (k : Int) < d
    · rw [if_pos c, if_pos (Or.inl c)]
    · rw [if_neg c, if_neg (by omega)]
  omega
