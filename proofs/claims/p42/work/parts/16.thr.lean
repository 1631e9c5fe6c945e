/-! what the four throws ask of the tables -/
theorem xtb_cut {L : List Cond} (ws : List (Nat × Nat)) (h : ∀ z ∈ L, z ∈ ws.flatMap (fun q => (tables_1.drop q.1).take q.2)) (hg : ∀ z ∈ L, goodWord z = true) : ∀ z ∈ L, z ∈ xtb := by
  intro z hz
  refine List.mem_filter.mpr ⟨List.mem_append_right _ ?_, hg z hz⟩
  obtain ⟨q, -, h1⟩ := List.mem_flatMap.mp (h z hz)
  exact List.mem_of_mem_drop (List.mem_of_mem_take h1)
theorem ac_RX5_33 : Cond.classLink RX5 29 "java/lang/IndexOutOfBoundsException" ∈ xtb := xtb_in (i := 640) (by decide +kernel) (by decide +kernel)
theorem ai_RX5_33 : Cond.initialized "java/lang/IndexOutOfBoundsException" ∈ xtb := xtb_in (i := 16) (by decide +kernel) (by decide +kernel)
theorem at2_RX5_33 : ∀ z ∈ (vx_atS RX5 33 "java/lang/IndexOutOfBoundsException" ["java/lang/RuntimeException", "java/lang/Exception"]).filter (fun z => !goodWord z), z ∈ xcast.map (fun q => Cond.castable q.1 q.2) ++ xdecl.map (fun q => Cond.declares q) := by decide +kernel
theorem at3_RX5_33 : ∀ z ∈ Cond.classLink RX5 29 "java/lang/IndexOutOfBoundsException" :: Cond.initialized "java/lang/IndexOutOfBoundsException" :: vx_atS RX5 33 "java/lang/IndexOutOfBoundsException" ["java/lang/RuntimeException", "java/lang/Exception"], vx_ot z = true := by decide +kernel
theorem at1_RX5_33 : ∀ z ∈ (vx_atS RX5 33 "java/lang/IndexOutOfBoundsException" ["java/lang/RuntimeException", "java/lang/Exception"]).filter goodWord, z ∈ xtb := xtb_cut [(0, 26), (365, 70), (496, 30), (636, 8)] (by decide +kernel) (fun z hz => (List.mem_filter.mp hz).2)
theorem ac_RX4_85 : Cond.classLink RX4 81 "java/lang/IndexOutOfBoundsException" ∈ xtb := xtb_in (i := 505) (by decide +kernel) (by decide +kernel)
theorem ai_RX4_85 : Cond.initialized "java/lang/IndexOutOfBoundsException" ∈ xtb := xtb_in (i := 16) (by decide +kernel) (by decide +kernel)
theorem at2_RX4_85 : ∀ z ∈ (vx_atS RX4 85 "java/lang/IndexOutOfBoundsException" ["java/lang/RuntimeException", "java/lang/Exception"]).filter (fun z => !goodWord z), z ∈ xcast.map (fun q => Cond.castable q.1 q.2) ++ xdecl.map (fun q => Cond.declares q) := by decide +kernel
theorem at3_RX4_85 : ∀ z ∈ Cond.classLink RX4 81 "java/lang/IndexOutOfBoundsException" :: Cond.initialized "java/lang/IndexOutOfBoundsException" :: vx_atS RX4 85 "java/lang/IndexOutOfBoundsException" ["java/lang/RuntimeException", "java/lang/Exception"], vx_ot z = true := by decide +kernel
theorem at1_RX4_85 : ∀ z ∈ (vx_atS RX4 85 "java/lang/IndexOutOfBoundsException" ["java/lang/RuntimeException", "java/lang/Exception"]).filter goodWord, z ∈ xtb := xtb_cut [(0, 26), (365, 70), (496, 30)] (by decide +kernel) (fun z hz => (List.mem_filter.mp hz).2)
theorem ac_RX7_252 : Cond.classLink RX7 248 "java/lang/IllegalArgumentException" ∈ xtb := xtb_in (i := 367) (by decide +kernel) (by decide +kernel)
theorem ai_RX7_252 : Cond.initialized "java/lang/IllegalArgumentException" ∈ xtb := xtb_in (i := 13) (by decide +kernel) (by decide +kernel)
theorem at2_RX7_252 : ∀ z ∈ (vx_atS RX7 252 "java/lang/IllegalArgumentException" ["java/lang/RuntimeException", "java/lang/Exception"]).filter (fun z => !goodWord z), z ∈ xcast.map (fun q => Cond.castable q.1 q.2) ++ xdecl.map (fun q => Cond.declares q) := by decide +kernel
theorem at3_RX7_252 : ∀ z ∈ Cond.classLink RX7 248 "java/lang/IllegalArgumentException" :: Cond.initialized "java/lang/IllegalArgumentException" :: vx_atS RX7 252 "java/lang/IllegalArgumentException" ["java/lang/RuntimeException", "java/lang/Exception"], vx_ot z = true := by decide +kernel
theorem at1_RX7_252 : ∀ z ∈ (vx_atS RX7 252 "java/lang/IllegalArgumentException" ["java/lang/RuntimeException", "java/lang/Exception"]).filter goodWord, z ∈ xtb := xtb_cut [(0, 26), (365, 70)] (by decide +kernel) (fun z hz => (List.mem_filter.mp hz).2)
theorem ac_RX7_259 : Cond.classLink RX7 255 "java/lang/IllegalStateException" ∈ xtb := xtb_in (i := 469) (by decide +kernel) (by decide +kernel)
theorem ai_RX7_259 : Cond.initialized "java/lang/IllegalStateException" ∈ xtb := xtb_in (i := 15) (by decide +kernel) (by decide +kernel)
theorem at2_RX7_259 : ∀ z ∈ (vx_atS RX7 259 "java/lang/IllegalStateException" ["java/lang/RuntimeException", "java/lang/Exception"]).filter (fun z => !goodWord z), z ∈ xcast.map (fun q => Cond.castable q.1 q.2) ++ xdecl.map (fun q => Cond.declares q) := by decide +kernel
theorem at3_RX7_259 : ∀ z ∈ Cond.classLink RX7 255 "java/lang/IllegalStateException" :: Cond.initialized "java/lang/IllegalStateException" :: vx_atS RX7 259 "java/lang/IllegalStateException" ["java/lang/RuntimeException", "java/lang/Exception"], vx_ot z = true := by decide +kernel
theorem at1_RX7_259 : ∀ z ∈ (vx_atS RX7 259 "java/lang/IllegalStateException" ["java/lang/RuntimeException", "java/lang/Exception"]).filter goodWord, z ∈ xtb := xtb_cut [(0, 26), (365, 70), (465, 25)] (by decide +kernel) (fun z hz => (List.mem_filter.mp hz).2)
