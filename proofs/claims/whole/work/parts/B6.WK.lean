/-! whole -/
theorem zx_start {s : State} {b L : Nat} {xs : Nat → Int32} (hts : ∀ w ∈ lw_tbl, w.before #[Value.ref b] s = true) (hg : (Jvm.Cond.and given_1 narrow_1).before #[Value.ref b] s = true) (hX : va_X b L xs s s.heap) (hb : b < s.heap.size) : ∃ w : xW, zPl w s.heap.size ∧ w.2.2.2.1 = s.heap.size ∧ w.2.2.2.2.2.1 = L ∧ w.1 52 0 = b ∧ xSta w s s.heap ∧ zNw s := by
  have hs := flat_of_before _ hg
  have hA : ∀ a : Nat, a < s.heap.size → ¬ s.heap.size ≤ a := fun a ha => Nat.not_le.mpr ha
  obtain ⟨dC, dI, hcl⟩ := zx_cls hts
  obtain ⟨cls, har⟩ := zx_arr hts
  obtain ⟨adT, hT⟩ := zx_tok hts hg
  obtain ⟨adK, adV, hK, hev⟩ := zx_strs hg
  obtain ⟨a6, e6⟩ := zx_str (args := #[Value.ref b]) (s := s) (t := .string "PromiseMarket$State" 83) (hs _ (by decide +kernel))
  obtain ⟨a7, e7⟩ := zx_str (args := #[Value.ref b]) (s := s) (t := .string "PromiseMarket$Timeline" 31) (hs _ (by decide +kernel))
  obtain ⟨a8, e8⟩ := zx_str (args := #[Value.ref b]) (s := s) (t := .string "PromiseMarket" 250) (hs _ (by decide +kernel))
  obtain ⟨a9, e9⟩ := zx_str (args := #[Value.ref b]) (s := s) (t := .string "PromiseMarket" 257) (hs _ (by decide +kernel))
  obtain ⟨b0, f0⟩ := zx_str (args := #[Value.ref b]) (s := s) (t := .string "PromiseMarketModel" 350) (hs _ (by decide +kernel))
  have g0 : adK 0 = b0 := by
    first
      | exact zx_eqR (t := .string "PromiseMarket$SetupText" 64) (u := .string "PromiseMarketModel" 350) (hs _ (by decide +kernel)) (hev 0 (by decide)) f0
      | exact (zx_eqR (t := .string "PromiseMarketModel" 350) (u := .string "PromiseMarket$SetupText" 64) (hs _ (by decide +kernel)) f0 (hev 0 (by decide))).symm
  obtain ⟨b1, f1⟩ := zx_str (args := #[Value.ref b]) (s := s) (t := .string "PromiseMarketModel" 352) (hs _ (by decide +kernel))
  have g1 : adK 1 = b1 := by
    first
      | exact zx_eqR (t := .string "PromiseMarket$SetupText" 73) (u := .string "PromiseMarketModel" 352) (hs _ (by decide +kernel)) (hev 1 (by decide)) f1
      | exact (zx_eqR (t := .string "PromiseMarketModel" 352) (u := .string "PromiseMarket$SetupText" 73) (hs _ (by decide +kernel)) f1 (hev 1 (by decide))).symm
  obtain ⟨b2, f2⟩ := zx_str (args := #[Value.ref b]) (s := s) (t := .string "PromiseMarketModel" 354) (hs _ (by decide +kernel))
  have g2 : adK 2 = b2 := by
    first
      | exact zx_eqR (t := .string "PromiseMarket$SetupText" 78) (u := .string "PromiseMarketModel" 354) (hs _ (by decide +kernel)) (hev 2 (by decide)) f2
      | exact (zx_eqR (t := .string "PromiseMarketModel" 354) (u := .string "PromiseMarket$SetupText" 78) (hs _ (by decide +kernel)) f2 (hev 2 (by decide))).symm
  obtain ⟨b3, f3⟩ := zx_str (args := #[Value.ref b]) (s := s) (t := .string "PromiseMarketModel" 340) (hs _ (by decide +kernel))
  have g3 : adK 3 = b3 := by
    first
      | exact zx_eqR (t := .string "PromiseMarket$SetupText" 83) (u := .string "PromiseMarketModel" 340) (hs _ (by decide +kernel)) (hev 3 (by decide)) f3
      | exact (zx_eqR (t := .string "PromiseMarketModel" 340) (u := .string "PromiseMarket$SetupText" 83) (hs _ (by decide +kernel)) f3 (hev 3 (by decide))).symm
  obtain ⟨b4, f4⟩ := zx_str (args := #[Value.ref b]) (s := s) (t := .string "PromiseMarketModel" 345) (hs _ (by decide +kernel))
  have g4 : adK 4 = b4 := by
    first
      | exact zx_eqR (t := .string "PromiseMarket$SetupText" 88) (u := .string "PromiseMarketModel" 345) (hs _ (by decide +kernel)) (hev 4 (by decide)) f4
      | exact (zx_eqR (t := .string "PromiseMarketModel" 345) (u := .string "PromiseMarket$SetupText" 88) (hs _ (by decide +kernel)) f4 (hev 4 (by decide))).symm
  obtain ⟨b5, f5⟩ := zx_str (args := #[Value.ref b]) (s := s) (t := .string "PromiseMarketModel" 347) (hs _ (by decide +kernel))
  have g5 : adK 5 = b5 := by
    first
      | exact zx_eqR (t := .string "PromiseMarket$SetupText" 93) (u := .string "PromiseMarketModel" 347) (hs _ (by decide +kernel)) (hev 5 (by decide)) f5
      | exact (zx_eqR (t := .string "PromiseMarketModel" 347) (u := .string "PromiseMarket$SetupText" 93) (hs _ (by decide +kernel)) f5 (hev 5 (by decide))).symm
  let ad : Nat → Nat → Nat := fun k j => if k < 50 then zad s.heap.size k j else if k = 50 then adT j else if k = 51 then (if j < 6 then adK j else if j = 6 then a6 else if j = 7 then a7 else if j = 8 then a8 else a9) else b
  have k6 : ∀ i, i < 6 → ad 51 i = adK i := fun i hi => if_pos hi
  have hK2 : vk_S 6 xslen xsbyt (ad 51) adV (fun q => s.heap.size ≤ q) s s.heap := ⟨fun i hi => by rw [k6 i hi]; exact hK.1 i hi, fun i j hi hj e => hK.2 i j hi hj (by rw [← k6 i hi, ← k6 j hj]; exact e)⟩
  have hR : ∀ q ∈ xstr, vk_R q.1 q.2.1 q.2.2.1 (ad 51 q.2.2.2) s := by
    intro q hq
    unfold xstr at hq
    simp only [List.mem_cons, List.not_mem_nil, or_false] at hq
    rcases hq with rfl | rfl | rfl | rfl | rfl | rfl | rfl | rfl | rfl | rfl | rfl | rfl | rfl | rfl | rfl | rfl
    · exact vk_R.of (A := #[Value.ref b]) (hts _ (List.mem_append_right _ (List.mem_of_getElem? (i := 475) (by decide +kernel)))) (hev 0 (by decide))
    · exact vk_R.of (A := #[Value.ref b]) (hts _ (List.mem_append_right _ (List.mem_of_getElem? (i := 543) (by decide +kernel)))) (hev 1 (by decide))
    · exact vk_R.of (A := #[Value.ref b]) (hts _ (List.mem_append_right _ (List.mem_of_getElem? (i := 548) (by decide +kernel)))) (hev 2 (by decide))
    · exact vk_R.of (A := #[Value.ref b]) (hts _ (List.mem_append_right _ (List.mem_of_getElem? (i := 562) (by decide +kernel)))) (hev 3 (by decide))
    · exact vk_R.of (A := #[Value.ref b]) (hts _ (List.mem_append_right _ (List.mem_of_getElem? (i := 638) (by decide +kernel)))) (hev 4 (by decide))
    · exact vk_R.of (A := #[Value.ref b]) (hts _ (List.mem_append_right _ (List.mem_of_getElem? (i := 669) (by decide +kernel)))) (hev 5 (by decide))
    · exact vk_R.of (A := #[Value.ref b]) (hts _ (List.mem_append_right _ (List.mem_of_getElem? (i := 1559) (by decide +kernel)))) (by rw [k6 0 (by decide), g0]; exact f0)
    · exact vk_R.of (A := #[Value.ref b]) (hts _ (List.mem_append_right _ (List.mem_of_getElem? (i := 1582) (by decide +kernel)))) (by rw [k6 1 (by decide), g1]; exact f1)
    · exact vk_R.of (A := #[Value.ref b]) (hts _ (List.mem_append_right _ (List.mem_of_getElem? (i := 1583) (by decide +kernel)))) (by rw [k6 2 (by decide), g2]; exact f2)
    · exact vk_R.of (A := #[Value.ref b]) (hts _ (List.mem_append_right _ (List.mem_of_getElem? (i := 1588) (by decide +kernel)))) (by rw [k6 3 (by decide), g3]; exact f3)
    · exact vk_R.of (A := #[Value.ref b]) (hts _ (List.mem_append_right _ (List.mem_of_getElem? (i := 1593) (by decide +kernel)))) (by rw [k6 4 (by decide), g4]; exact f4)
    · exact vk_R.of (A := #[Value.ref b]) (hts _ (List.mem_append_right _ (List.mem_of_getElem? (i := 1594) (by decide +kernel)))) (by rw [k6 5 (by decide), g5]; exact f5)
    · exact vk_R.of (A := #[Value.ref b]) (hts _ (List.mem_append_right _ (List.mem_of_getElem? (i := 612) (by decide +kernel)))) e6
    · exact vk_R.of (A := #[Value.ref b]) (hts _ (List.mem_append_right _ (List.mem_of_getElem? (i := 680) (by decide +kernel)))) e7
    · exact vk_R.of (A := #[Value.ref b]) (hts _ (List.mem_append_right _ (List.mem_of_getElem? (i := 735) (by decide +kernel)))) e8
    · exact vk_R.of (A := #[Value.ref b]) (hts _ (List.mem_append_right _ (List.mem_of_getElem? (i := 754) (by decide +kernel)))) e9
  refine ⟨(ad, (dC, dI), cls, s.heap.size, adV, L, xs), fun k j hk => if_pos hk, rfl, rfl, rfl, ⟨⟨hcl, har⟩, Nat.le_refl _, ⟨hT, hX, hb⟩, ⟨hK2, hR, va_Zof (args := #[Value.ref b]) (hts _ (List.mem_append_right _ (List.mem_of_getElem? (i := 489) (by decide +kernel)))) (hts _ (List.mem_append_right _ (List.mem_of_getElem? (i := 19) (by decide +kernel)))) (va_eqt (hs _ (by decide +kernel))) hA, va_Zqof (args := #[Value.ref b]) (hts _ (List.mem_append_right _ (List.mem_of_getElem? (i := 505) (by decide +kernel)))) (hts _ (List.mem_append_right _ (List.mem_of_getElem? (i := 21) (by decide +kernel)))) (hs _ (by decide +kernel)) hA⟩, ⟨vx_Zqof (args := #[Value.ref b]) (hts _ (List.mem_append_right _ (List.mem_of_getElem? (i := 598) (by decide +kernel)))) (hts _ (List.mem_append_right _ (List.mem_of_getElem? (i := 11) (by decide +kernel)))) (hs _ (by decide +kernel)) hA, vx_Zqof (args := #[Value.ref b]) (hts _ (List.mem_append_right _ (List.mem_of_getElem? (i := 600) (by decide +kernel)))) (hts _ (List.mem_append_right _ (List.mem_of_getElem? (i := 11) (by decide +kernel)))) (hs _ (by decide +kernel)) hA⟩, ?_, ?_, ?_, ?_⟩, ?_, ?_⟩
  · intro q hq
    unfold xcast at hq
    simp only [List.mem_cons, List.not_mem_nil, or_false] at hq
    rcases hq with rfl | rfl | rfl
    · exact va_Nw.of rfl (hts _ (List.mem_append_right _ (List.mem_of_getElem? (i := 573) (by decide +kernel))))
    · exact va_Nw.of rfl (hts _ (List.mem_append_right _ (List.mem_of_getElem? (i := 728) (by decide +kernel))))
    · exact va_Nw.of rfl (hts _ (List.mem_append_right _ (List.mem_of_getElem? (i := 747) (by decide +kernel))))
  · intro q hq
    unfold xdecl at hq
    simp only [List.mem_cons, List.not_mem_nil, or_false] at hq
    rcases hq with rfl | rfl | rfl
    · exact va_Nw.of rfl (hts _ (List.mem_append_right _ (List.mem_of_getElem? (i := 575) (by decide +kernel))))
    · exact va_Nw.of rfl (hts _ (List.mem_append_right _ (List.mem_of_getElem? (i := 577) (by decide +kernel))))
    · exact va_Nw.of rfl (hts _ (List.mem_append_right _ (List.mem_of_getElem? (i := 579) (by decide +kernel))))
  · intro q hq
    unfold xnest at hq
    simp only [List.mem_cons, List.not_mem_nil, or_false] at hq
    rcases hq with rfl | rfl
    · exact va_Nw.of rfl (hts _ (List.mem_append_right _ (List.mem_of_getElem? (i := 540) (by decide +kernel))))
    · exact va_Nw.of rfl (hts _ (List.mem_append_right _ (List.mem_of_getElem? (i := 643) (by decide +kernel))))
  · intro q hq
    unfold xnot at hq
    simp only [List.mem_cons, List.not_mem_nil, or_false] at hq
    rcases hq with rfl | rfl | rfl
    · exact va_Nc.of (args := #[Value.ref b]) (hs _ (by decide +kernel))
    · exact va_Nc.of (args := #[Value.ref b]) (hs _ (by decide +kernel))
    · exact va_Nc.of (args := #[Value.ref b]) (hs _ (by decide +kernel))
  · intro q hq
    unfold znest at hq
    simp only [List.mem_cons, List.not_mem_nil, or_false] at hq
    rcases hq with rfl | rfl | rfl | rfl
    · exact va_Nw.of rfl (hts _ (List.mem_append_right _ (List.mem_of_getElem? (i := 46) (by decide +kernel))))
    · exact va_Nw.of rfl (hts _ (List.mem_append_right _ (List.mem_of_getElem? (i := 143) (by decide +kernel))))
    · exact va_Nw.of rfl (hts _ (List.mem_append_right _ (List.mem_of_getElem? (i := 160) (by decide +kernel))))
    · exact va_Nw.of rfl (hts _ (List.mem_append_right _ (List.mem_of_getElem? (i := 273) (by decide +kernel))))
  · intro q hq
    unfold zarr at hq
    simp only [List.mem_cons, List.not_mem_nil, or_false] at hq
    rcases hq with rfl | rfl | rfl
    · exact va_AO.of (hts _ (List.mem_append_right _ (List.mem_of_getElem? (i := 44) (by decide +kernel))))
    · exact va_AO.of (hts _ (List.mem_append_right _ (List.mem_of_getElem? (i := 140) (by decide +kernel))))
    · exact va_AO.of (hts _ (List.mem_append_right _ (List.mem_of_getElem? (i := 268) (by decide +kernel))))
set_option maxHeartbeats 1000000 in
/-- from the entry the law comes to its end with true -/
theorem whole_start {p : Program} {e : Env} {s : State} {m : MethodId} {below : List Frame} {meth : Method} {c : Code} (l : Launch) (hflags : l.flags = flags0) {b L : Nat} {xs : Nat → Int32} (hL : L ≤ 2560) (C0 : lw_At p s m meth c b L xs) : W p l e room_1 s m #[Value.ref b] below meth c s.heap [] 0 0 (lw_Z below #[Value.ref b] s) (entryFrame m ([Value.ref b] : List Value).toArray 9) := by
  obtain ⟨h1, h2, h3, h4, h5x, h5, h6, h7, h8, h9, h10⟩ := C0
  obtain ⟨w, hw, hz, hLw, hbw, hSta, hNw⟩ := zx_start h6 h10 h7 h8
  subst hbw
  have htab : c.exceptionTable.toList = tableOf mL_law.2.2.2.2.1 := by
    cases hz : c.exceptionTable.toList with
    | nil => rfl
    | cons a t => exact absurd (h5x a (by rw [hz]; exact List.mem_cons_self)) id
  have hC : xCx w mL_law p l room_1 s m #[Value.ref (w.1 52 0)] meth c := ⟨h1, h2, h3, h4, h5, fun z hz => h6 z (List.mem_filter.mp hz).1, h9, htab, ⟨Nat.le_of_ble_eq_true rfl, Nat.le_of_ble_eq_true rfl⟩, hflags, hSta⟩
  have hlh := lv_entry ([xp 52 0].map (xc w.1)) (n := 9) (Nat.le_of_ble_eq_true rfl)
  have hl := xent_pl (ad := w.1) (m := 8) [xp 52 0] 0 (fun v hv => by rw [List.mem_singleton.mp hv]; rfl)
  rw [lg_entry_eq]
  have hfin := xl_all hw (by rw [hLw]; exact hL) p l e room_1 s m #[Value.ref (w.1 52 0)] below meth c s.heap [] 0 0 774 10686 _ hC ⟨Nat.le_of_ble_eq_true rfl, Nat.le_of_ble_eq_true rfl, Nat.le_of_ble_eq_true rfl, Nat.le_of_ble_eq_true rfl⟩ ⟨⟨fun k q hk => (nomatch hk), ⟨fun i j p q hi => (nomatch hi), fun k q hk => (nomatch hk)⟩, List.nodup_nil, rfl⟩, fun z => z.elim, hNw⟩ va_S.rf ⟨rfl, by rw [show ([xp 52 0, xj, xj, xj, xj, xj, xj, xj, xj] : List xV) = xent [xp 52 0] ++ List.replicate 8 xj from rfl, hl]; exact hlh⟩ (xent_ok (as := [xp 52 0]) (m := 8) (fun v hv => by rw [List.mem_singleton.mp hv]; rfl)) (fun v hv => nomatch hv)
  intro T hT X0
  obtain ⟨t, a, b'⟩ := hfin T hT X0
  exact ⟨t, a, b' ⟨Nat.le_of_ble_eq_true rfl, Nat.le_of_ble_eq_true rfl, hz.symm⟩⟩
set_option maxHeartbeats 4000000 in
theorem lw_walk (l : Launch) (hflags : l.flags = flags0) (b : Addr) (xs : List Int32) : MetFree l x (headSpec (Jvm.Cond.code x code maxLocals ret :: tables_1) room_1) (lw_P b xs) (fun _ _ _ _ _ => True) lw_Q := by
  refine MetFree.of_bodyS (code := code) (maxLocals := maxLocals) (ret := ret) (by decide) ?_ ?_
  · intro args s m h hn
    obtain ⟨meth, c, h1, h2, h3, h4, h5, h6, -, -⟩ := Cond.code_spec hn (atoms_spec (ws := Jvm.Cond.code x code maxLocals ret :: tables_1) h _ List.mem_cons_self)
    exact ⟨meth, c, h1, h2, h3, h4, h5, h6⟩
  · intro p e s m args below meth c s₁ B hml0 hP _
    obtain ⟨rfl, hx, hbd, hgv⟩ := hP
    obtain ⟨scr, harrAt, hlist, hof, hsmall⟩ := hx
    obtain ⟨hcb, hkn, -, -⟩ := State.arrayAt?_spec harrAt
    have hown : s.vm.findClass R_law = some m.cls := findClass_of_methodNamed B.named
    have hts0 : ∀ c ∈ (Jvm.Cond.code x code maxLocals ret :: tables_1), c.before #[Value.ref b] s = true := atoms_spec (ws := Jvm.Cond.code x code maxLocals ret :: tables_1) B.pre
    have hts : ∀ w ∈ lw_tbl, w.before #[Value.ref b] s = true := k2_hts_sels lw_privs (fun w hw => hts0 w (List.mem_cons_of_mem _ hw)) lw_privs_ok
    have hml : c.maxLocals = 9 := B.maxLocals_eq (hts0 _ List.mem_cons_self)
    have hex : ∀ x ∈ c.exceptionTable.toList, False := by
      obtain ⟨meth9, c9, h1, h2, -, -, -, -, h7, -⟩ := Cond.code_spec B.named (hts0 _ List.mem_cons_self)
      cases Option.some.inj (h1.symm.trans B.method)
      cases Option.some.inj (h2.symm.trans (Stand.of_body B).code)
      intro x hx
      rw [Array.isEmpty_iff.mp h7] at hx
      cases hx
    have X₀ : Stand p l e room_1 s m #[Value.ref b] below meth c s₁ [] 0 0 := Stand.of_body B
    have hh0 : s₁.heap = s.heap := by rw [B.state]; rfl
    have hsz : scr.slots.size = xs.length := by rw [← Array.length_toList, hlist, List.length_map]
    have hval : ∀ j : Nat, j < xs.length → scr.slots[j]? = some (.int (xs.getD j 0)) := fun j hj => by
      rw [← Array.getElem?_toList, hlist]
      simp [hj]
    have hbl : b < s.heap.size := (Array.getElem?_eq_some_iff.mp hcb).1
    have hX : va_X b xs.length (fun j => xs.getD j 0) s s.heap := ⟨scr, hcb, hof, hkn, hsz, hval⟩
    have K : W p l e room_1 s m #[Value.ref b] below meth c s₁.heap [] 0 0 (lw_Z below #[Value.ref b] s) (entryFrame m ([Value.ref b] : List Value).toArray 9) := by
      rw [hh0]
      exact whole_start l hflags hbd ⟨B.exec, B.bytes, B.returns, hml, hex, hown, hts, hX, hbl, B.notSynchronized, hgv⟩
    obtain ⟨t, a1, o, b1, b2, b3⟩ := K s₁ rfl X₀
    exact ⟨t, o, a1, b1, b2, b3⟩
theorem lw_pre_spec {args : Array Value} {s : State} (h : (Jvm.Cond.and given_1 narrow_1).before args s = true) (hr : rest_1_c.before args s = true) : ∃ (b : Addr) (xs : List Int32), lw_P b xs args s := by
  have hs := flat_of_before _ h
  have hq := flat_of_before _ hr
  have hc : (Cond.count 1).before args s = true := hs _ (by decide +kernel)
  have harr : (Cond.arrayOf (.arg 0) .int).before args s = true := hs _ (by decide +kernel)
  have hle : (Cond.le (.length (.arg 0)) (.int 2560)).before args s = true := hs _ (by decide +kernel)
  have hlen : (Cond.isInt (.length (.arg 0))).before args s = true := hq _ (by decide +kernel)
  have hall : (Cond.all (.arg 0) (.isInt (.elem (.arg 0) (.index 0)))).before args s = true := hq _ (by decide +kernel)
  obtain ⟨b, xs, hb, hx⟩ := State.ints_of_pre rfl harr hlen hall
  have hsm : xs.length < 2 ^ 31 := hx.choose_spec.2.2.2
  have hev : (Term.length (.arg 0)).eval args s none [] s = some (.int xs.length.toInt32) := hx.length_eval hb
  have hv := Cond.le_ints hev (show (Term.int 2560).eval args s none [] s = some (.int 2560) from rfl)
  have hd : xs.length.toInt32 ≤ 2560 := by
    simpa [Cond.before, Cond.holds, hv] using hle
  have hN : xs.length ≤ 2560 := (Int32.ofNat_le_ofNat hsm (by decide)).mp (show Int32.ofNat xs.length ≤ Int32.ofNat 2560 from hd)
  exact ⟨b, xs, Cond.one_arg hc (show args[0]? = some (.ref b) from hb), hx, hN, h⟩
theorem lw_comes (l : Launch) (hflags : l.flags = flags0) : Comes l x (Jvm.Cond.code x code maxLocals ret :: tables_1) room_1 (fun tb e args s => Calls_1 tb e args s ∧ rest_1 tb e args s ∧ Pre_1 tb e args s)
    (fun _ _ args s o t => lw_Q args s o t) := by
  intro p e ha hc hk s m args below hf hfit hheap happ hpre
  obtain ⟨b, xs, hP⟩ := lw_pre_spec hpre.2.2 hpre.2.1
  obtain ⟨k, o, h1, h2, h3, hQ⟩ := lw_walk l hflags b xs p e ha hc hk s m args below hf ((Spec.applies_iff_loose hf).mp happ).1 hP trivial
  exact ⟨k, o, h1, h2, h3, hQ⟩
theorem lw_frame {s t : State} {o : Outcome} {args : Array Value} (h : State.butDraws s t lw_cs (fun t1 => Framed s o t1 [] 601024 7293034)) :
    State.butDraws s t [Jvm.Choice.named "NaN.bits"] (fun t1 => Framed s o t1 (fieldLocs frame_1_writes args s ++ arrayLocs frame_1_arrays args s ++ staticLocs frame_1_statics s) 601024 7293034) := h
theorem lw_limb (L : Cond) (hL : ∀ (args : Array Value) (s t : State), L.after args s (.returned (some (.int 1))) t = true) :
    ArmFor flags0 classFile x code maxLocals ret World_1 tables_1 room_1 Calls_1 rest_1 Pre_1
      (fun tb e a s o t => postC L tb e a s o t ∧ State.butDraws s t [Jvm.Choice.named "NaN.bits"] (fun t1 => Framed s o t1 (fieldLocs frame_1_writes a s ++ arrayLocs frame_1_arrays a s ++ staticLocs frame_1_statics s) 601024 7293034)) := by
  intro l hflags _ _ p e ha hc hk s m args below hf hfit hheap happ hpre
  obtain ⟨k, o, h1, h2, h3, rfl, hF⟩ := lw_comes l hflags p e ha hc hk s m args below hf hfit hheap happ hpre
  exact ⟨k, _, h1, h2, h3, hL args s _, lw_frame hF⟩
theorem i_vc : Claimed_1_1 ∧ Claimed_1_2 := ⟨lw_limb limb_1_1 (fun args s t => by simp [limb_1_1, Cond.after, Cond.holds, Cond.value]), lw_limb limb_1_2 (fun args s t => Cond.after_iff.mpr (by
  first | (rw [show limb_1_2 = Cond.eq .result (.int 1) from rfl, Cond.eq_ints (x := 1) (y := 1) rfl rfl]; simp; done) | (simp [limb_1_2, Cond.value, Term.eval]; done)))⟩
