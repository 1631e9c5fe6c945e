/-! strings -/
abbrev mJlen : xM := (RJ0, cJ0_length_8abf5, 1, (some .int), [], 1, 20)
theorem wd_Jlen : (yJ0_length_8abf5).cls ≠ "java/lang/invoke/MethodHandle" ∧ (yJ0_length_8abf5).cls ≠ "java/lang/invoke/VarHandle" ∧ (parseMethodDescriptor (yJ0_length_8abf5).desc).map (fun d => d.parameters.length) = some 0 := by decide +kernel
theorem eJlen_0 : xd cJ0_length_8abf5 0 (.aload_n 0) 1 1 := ⟨by decide +kernel, rfl⟩
theorem eJlen_1 : xd cJ0_length_8abf5 1 (.getfield 9) 3 4 := ⟨by decide +kernel, rfl⟩
theorem eJlen_4 : xd cJ0_length_8abf5 4 (.arraylength) 1 5 := ⟨by decide +kernel, rfl⟩
theorem eJlen_5 : xd cJ0_length_8abf5 5 (.aload_n 0) 1 6 := ⟨by decide +kernel, rfl⟩
theorem eJlen_6 : xd cJ0_length_8abf5 6 (.invokevirtual 335) 3 9 := ⟨by decide +kernel, rfl⟩
theorem eJlen_9 : xd cJ0_length_8abf5 9 (.ishr) 1 10 := ⟨by decide +kernel, rfl⟩
theorem eJlen_10 : xd cJ0_length_8abf5 10 (.ireturn) 1 11 := ⟨by decide +kernel, rfl⟩
abbrev mJcha : xM := (RJ0, cJ0_charAt_5068e, 2, (some .char), [], 4, 85)
theorem wd_Jcha : (yJ0_charAt_5068e).cls ≠ "java/lang/invoke/MethodHandle" ∧ (yJ0_charAt_5068e).cls ≠ "java/lang/invoke/VarHandle" ∧ (parseMethodDescriptor (yJ0_charAt_5068e).desc).map (fun d => d.parameters.length) = some 1 := by decide +kernel
theorem eJcha_0 : xd cJ0_charAt_5068e 0 (.aload_n 0) 1 1 := ⟨by decide +kernel, rfl⟩
theorem eJcha_1 : xd cJ0_charAt_5068e 1 (.invokevirtual 492) 3 4 := ⟨by decide +kernel, rfl⟩
theorem eJcha_4 : xd cJ0_charAt_5068e 4 (.ifCond .eq 12) 3 7 := ⟨by decide +kernel, rfl⟩
theorem eJcha_7 : xd cJ0_charAt_5068e 7 (.aload_n 0) 1 8 := ⟨by decide +kernel, rfl⟩
theorem eJcha_8 : xd cJ0_charAt_5068e 8 (.getfield 9) 3 11 := ⟨by decide +kernel, rfl⟩
theorem eJcha_11 : xd cJ0_charAt_5068e 11 (.iload_n 1) 1 12 := ⟨by decide +kernel, rfl⟩
theorem eJcha_12 : xd cJ0_charAt_5068e 12 (.invokestatic 495) 3 15 := ⟨by decide +kernel, rfl⟩
theorem eJcha_15 : xd cJ0_charAt_5068e 15 (.ireturn) 1 16 := ⟨by decide +kernel, rfl⟩
theorem eJcha_16 : xd cJ0_charAt_5068e 16 (.aload_n 0) 1 17 := ⟨by decide +kernel, rfl⟩
theorem eJcha_17 : xd cJ0_charAt_5068e 17 (.getfield 9) 3 20 := ⟨by decide +kernel, rfl⟩
theorem eJcha_20 : xd cJ0_charAt_5068e 20 (.iload_n 1) 1 21 := ⟨by decide +kernel, rfl⟩
theorem eJcha_21 : xd cJ0_charAt_5068e 21 (.invokestatic 498) 3 24 := ⟨by decide +kernel, rfl⟩
theorem eJcha_24 : xd cJ0_charAt_5068e 24 (.ireturn) 1 25 := ⟨by decide +kernel, rfl⟩
abbrev mJcod : xM := (RJ0, cJ0_coder_7d493, 1, (some .byte), [], 0, 0)
theorem wd_Jcod : (yJ0_coder_7d493).cls ≠ "java/lang/invoke/MethodHandle" ∧ (yJ0_coder_7d493).cls ≠ "java/lang/invoke/VarHandle" ∧ (parseMethodDescriptor (yJ0_coder_7d493).desc).map (fun d => d.parameters.length) = some 0 := by decide +kernel
theorem eJcod_0 : xd cJ0_coder_7d493 0 (.getstatic 38) 3 3 := ⟨by decide +kernel, rfl⟩
theorem eJcod_3 : xd cJ0_coder_7d493 3 (.ifCond .eq 10) 3 6 := ⟨by decide +kernel, rfl⟩
theorem eJcod_6 : xd cJ0_coder_7d493 6 (.aload_n 0) 1 7 := ⟨by decide +kernel, rfl⟩
theorem eJcod_7 : xd cJ0_coder_7d493 7 (.getfield 15) 3 10 := ⟨by decide +kernel, rfl⟩
theorem eJcod_10 : xd cJ0_coder_7d493 10 (.goto 4) 3 13 := ⟨by decide +kernel, rfl⟩
theorem eJcod_13 : xd cJ0_coder_7d493 13 (.iconst 1) 1 14 := ⟨by decide +kernel, rfl⟩
theorem eJcod_14 : xd cJ0_coder_7d493 14 (.ireturn) 1 15 := ⟨by decide +kernel, rfl⟩
abbrev mJlat : xM := (RJ0, cJ0_isLatin1_aae02, 1, (some .boolean), [], 0, 0)
theorem wd_Jlat : (yJ0_isLatin1_aae02).cls ≠ "java/lang/invoke/MethodHandle" ∧ (yJ0_isLatin1_aae02).cls ≠ "java/lang/invoke/VarHandle" ∧ (parseMethodDescriptor (yJ0_isLatin1_aae02).desc).map (fun d => d.parameters.length) = some 0 := by decide +kernel
theorem eJlat_0 : xd cJ0_isLatin1_aae02 0 (.getstatic 38) 3 3 := ⟨by decide +kernel, rfl⟩
theorem eJlat_3 : xd cJ0_isLatin1_aae02 3 (.ifCond .eq 14) 3 6 := ⟨by decide +kernel, rfl⟩
theorem eJlat_6 : xd cJ0_isLatin1_aae02 6 (.aload_n 0) 1 7 := ⟨by decide +kernel, rfl⟩
theorem eJlat_7 : xd cJ0_isLatin1_aae02 7 (.getfield 15) 3 10 := ⟨by decide +kernel, rfl⟩
theorem eJlat_10 : xd cJ0_isLatin1_aae02 10 (.ifCond .ne 7) 3 13 := ⟨by decide +kernel, rfl⟩
theorem eJlat_13 : xd cJ0_isLatin1_aae02 13 (.iconst 1) 1 14 := ⟨by decide +kernel, rfl⟩
theorem eJlat_14 : xd cJ0_isLatin1_aae02 14 (.goto 4) 3 17 := ⟨by decide +kernel, rfl⟩
theorem eJlat_17 : xd cJ0_isLatin1_aae02 17 (.iconst 0) 1 18 := ⟨by decide +kernel, rfl⟩
theorem eJlat_18 : xd cJ0_isLatin1_aae02 18 (.ireturn) 1 19 := ⟨by decide +kernel, rfl⟩
abbrev mJchk : xM := (RJ0, cJ0_checkIndex_df160, 2, none, [], 1, 22)
theorem wd_Jchk : (yJ0_checkIndex_df160).cls ≠ "java/lang/invoke/MethodHandle" ∧ (yJ0_checkIndex_df160).cls ≠ "java/lang/invoke/VarHandle" ∧ (parseMethodDescriptor (yJ0_checkIndex_df160).desc).map (fun d => d.parameters.length) = some 2 := by decide +kernel
theorem eJchk_0 : xd cJ0_checkIndex_df160 0 (.iload_n 0) 1 1 := ⟨by decide +kernel, rfl⟩
theorem eJchk_1 : xd cJ0_checkIndex_df160 1 (.iload_n 1) 1 2 := ⟨by decide +kernel, rfl⟩
theorem eJchk_2 : xd cJ0_checkIndex_df160 2 (.getstatic 1053) 3 5 := ⟨by decide +kernel, rfl⟩
theorem eJchk_5 : xd cJ0_checkIndex_df160 5 (.invokestatic 1059) 3 8 := ⟨by decide +kernel, rfl⟩
theorem eJchk_8 : xd cJ0_checkIndex_df160 8 (.pop) 1 9 := ⟨by decide +kernel, rfl⟩
theorem eJchk_9 : xd cJ0_checkIndex_df160 9 (.return_) 1 10 := ⟨by decide +kernel, rfl⟩
abbrev mJlch : xM := (RJ1, cJ1_charAt_3b067, 2, (some .char), [], 2, 43)
theorem wd_Jlch : (yJ1_charAt_3b067).cls ≠ "java/lang/invoke/MethodHandle" ∧ (yJ1_charAt_3b067).cls ≠ "java/lang/invoke/VarHandle" ∧ (parseMethodDescriptor (yJ1_charAt_3b067).desc).map (fun d => d.parameters.length) = some 2 := by decide +kernel
theorem eJlch_0 : xd cJ1_charAt_3b067 0 (.iload_n 1) 1 1 := ⟨by decide +kernel, rfl⟩
theorem eJlch_1 : xd cJ1_charAt_3b067 1 (.aload_n 0) 1 2 := ⟨by decide +kernel, rfl⟩
theorem eJlch_2 : xd cJ1_charAt_3b067 2 (.arraylength) 1 3 := ⟨by decide +kernel, rfl⟩
theorem eJlch_3 : xd cJ1_charAt_3b067 3 (.invokestatic 9) 3 6 := ⟨by decide +kernel, rfl⟩
theorem eJlch_6 : xd cJ1_charAt_3b067 6 (.aload_n 0) 1 7 := ⟨by decide +kernel, rfl⟩
theorem eJlch_7 : xd cJ1_charAt_3b067 7 (.iload_n 1) 1 8 := ⟨by decide +kernel, rfl⟩
theorem eJlch_8 : xd cJ1_charAt_3b067 8 (.baload) 1 9 := ⟨by decide +kernel, rfl⟩
theorem eJlch_9 : xd cJ1_charAt_3b067 9 (.sipush 255) 3 12 := ⟨by decide +kernel, rfl⟩
theorem eJlch_12 : xd cJ1_charAt_3b067 12 (.iand) 1 13 := ⟨by decide +kernel, rfl⟩
theorem eJlch_13 : xd cJ1_charAt_3b067 13 (.i2c) 1 14 := ⟨by decide +kernel, rfl⟩
theorem eJlch_14 : xd cJ1_charAt_3b067 14 (.ireturn) 1 15 := ⟨by decide +kernel, rfl⟩
abbrev mJpre : xM := (RJ3, cJ3_checkIndex_8e157, 3, (some .int), [], 0, 0)
theorem wd_Jpre : (yJ3_checkIndex_8e157).cls ≠ "java/lang/invoke/MethodHandle" ∧ (yJ3_checkIndex_8e157).cls ≠ "java/lang/invoke/VarHandle" ∧ (parseMethodDescriptor (yJ3_checkIndex_8e157).desc).map (fun d => d.parameters.length) = some 3 := by decide +kernel
theorem eJpre_0 : xd cJ3_checkIndex_8e157 0 (.iload_n 0) 1 1 := ⟨by decide +kernel, rfl⟩
theorem eJpre_1 : xd cJ3_checkIndex_8e157 1 (.ifCond .lt 8) 3 4 := ⟨by decide +kernel, rfl⟩
theorem eJpre_4 : xd cJ3_checkIndex_8e157 4 (.iload_n 0) 1 5 := ⟨by decide +kernel, rfl⟩
theorem eJpre_5 : xd cJ3_checkIndex_8e157 5 (.iload_n 1) 1 6 := ⟨by decide +kernel, rfl⟩
theorem eJpre_6 : xd cJ3_checkIndex_8e157 6 (.if_icmp .lt 10) 3 9 := ⟨by decide +kernel, rfl⟩
theorem eJpre_9 : xd cJ3_checkIndex_8e157 9 (.aload_n 2) 1 10 := ⟨by decide +kernel, rfl⟩
theorem eJpre_10 : xd cJ3_checkIndex_8e157 10 (.iload_n 0) 1 11 := ⟨by decide +kernel, rfl⟩
theorem eJpre_11 : xd cJ3_checkIndex_8e157 11 (.iload_n 1) 1 12 := ⟨by decide +kernel, rfl⟩
theorem eJpre_12 : xd cJ3_checkIndex_8e157 12 (.invokestatic 95) 3 15 := ⟨by decide +kernel, rfl⟩
theorem eJpre_15 : xd cJ3_checkIndex_8e157 15 (.athrow) 1 16 := ⟨by decide +kernel, rfl⟩
theorem eJpre_16 : xd cJ3_checkIndex_8e157 16 (.iload_n 0) 1 17 := ⟨by decide +kernel, rfl⟩
theorem eJpre_17 : xd cJ3_checkIndex_8e157 17 (.ireturn) 1 18 := ⟨by decide +kernel, rfl⟩
theorem lJ_value : Cond.fieldLink RJ0 9 "java/lang/String" "value" "[B" ∈ xtb := xtb_in (i := 1613) (by decide +kernel) (by decide +kernel)
theorem lJ_coder : Cond.fieldLink RJ0 15 "java/lang/String" "coder" "B" ∈ xtb := xtb_in (i := 1614) (by decide +kernel) (by decide +kernel)
theorem lJ_cs : Cond.fieldLink RJ0 38 "java/lang/String" "COMPACT_STRINGS" "Z" ∈ xtb := xtb_in (i := 488) (by decide +kernel) (by decide +kernel)
theorem lJ_fmt : Cond.fieldLink RJ0 1053 "jdk/internal/util/Preconditions" "SIOOBE_FORMATTER" "Ljava/util/function/BiFunction;" ∈ xtb := xtb_in (i := 504) (by decide +kernel) (by decide +kernel)
theorem lJ_335 : Cond.methodLink RJ0 335 yJ0_coder_7d493 ∈ xtb := xtb_in (i := 484) (by decide +kernel) (by decide +kernel)
theorem lJ_492 : Cond.methodLink RJ0 492 yJ0_isLatin1_aae02 ∈ xtb := xtb_in (i := 494) (by decide +kernel) (by decide +kernel)
theorem lJ_495 : Cond.methodLink RJ0 495 yJ1_charAt_3b067 ∈ xtb := xtb_in (i := 498) (by decide +kernel) (by decide +kernel)
theorem lJ_9 : Cond.methodLink RJ1 9 yJ0_checkIndex_df160 ∈ xtb := xtb_in (i := 501) (by decide +kernel) (by decide +kernel)
theorem lJ_1059 : Cond.methodLink RJ0 1059 yJ3_checkIndex_8e157 ∈ xtb := xtb_in (i := 506) (by decide +kernel) (by decide +kernel)
theorem li_RJ1 : Cond.initialized RJ1 ∈ xtb := xtb_in (i := 20) (by decide +kernel) (by decide +kernel)
theorem li_RJ3 : Cond.initialized RJ3 ∈ xtb := xtb_in (i := 21) (by decide +kernel) (by decide +kernel)
theorem wy_Jcod : (Cond.instanceMethod yJ0_coder_7d493) ∈ xtb ∧ (Cond.selects (yJ0_coder_7d493).cls yJ0_coder_7d493 yJ0_coder_7d493) ∈ xtb ∧ (Cond.initialized (yJ0_coder_7d493).cls) ∈ xtb ∧ (Cond.code yJ0_coder_7d493 cJ0_coder_7d493 1 (some .byte)) ∈ xtb := ⟨xtb_in (i := 485) (by decide +kernel) (by decide +kernel), xtb_in (i := 486) (by decide +kernel) (by decide +kernel), li_RJ0, xtb_in (i := 487) (by decide +kernel) (by decide +kernel)⟩
theorem wy_Jlat : (Cond.instanceMethod yJ0_isLatin1_aae02) ∈ xtb ∧ (Cond.selects (yJ0_isLatin1_aae02).cls yJ0_isLatin1_aae02 yJ0_isLatin1_aae02) ∈ xtb ∧ (Cond.initialized (yJ0_isLatin1_aae02).cls) ∈ xtb ∧ (Cond.code yJ0_isLatin1_aae02 cJ0_isLatin1_aae02 1 (some .boolean)) ∈ xtb := ⟨xtb_in (i := 495) (by decide +kernel) (by decide +kernel), xtb_in (i := 496) (by decide +kernel) (by decide +kernel), li_RJ0, xtb_in (i := 497) (by decide +kernel) (by decide +kernel)⟩
theorem wy_Jlch : (Cond.static yJ1_charAt_3b067) ∈ xtb ∧ (Cond.initialized (yJ1_charAt_3b067).cls) ∈ xtb ∧ (Cond.code yJ1_charAt_3b067 cJ1_charAt_3b067 2 (some .char)) ∈ xtb := ⟨xtb_in (i := 499) (by decide +kernel) (by decide +kernel), li_RJ1, xtb_in (i := 500) (by decide +kernel) (by decide +kernel)⟩
theorem wy_Jchk : (Cond.static yJ0_checkIndex_df160) ∈ xtb ∧ (Cond.initialized (yJ0_checkIndex_df160).cls) ∈ xtb ∧ (Cond.code yJ0_checkIndex_df160 cJ0_checkIndex_df160 2 none) ∈ xtb := ⟨xtb_in (i := 502) (by decide +kernel) (by decide +kernel), li_RJ0, xtb_in (i := 503) (by decide +kernel) (by decide +kernel)⟩
theorem wy_Jpre : (Cond.static yJ3_checkIndex_8e157) ∈ xtb ∧ (Cond.initialized (yJ3_checkIndex_8e157).cls) ∈ xtb ∧ (Cond.code yJ3_checkIndex_8e157 cJ3_checkIndex_8e157 3 (some .int)) ∈ xtb := ⟨xtb_in (i := 507) (by decide +kernel) (by decide +kernel), li_RJ3, xtb_in (i := 508) (by decide +kernel) (by decide +kernel)⟩
section SR
variable {w : xW} {mi : xM} {TG : xT} {k n pc pc' : Nat} {L st : List xV} {S : xS} {A : Option xV → xS → Prop} {B : String → xS → Prop}
theorem xa_aloadR {q : Fin 4} {i a : Nat} (h : xd mi.2.1 pc (.aload_n q) 1 pc') (hq : (q : Nat) = i) (hi : L[i]? = some (xv (.ref a))) (kk : X w mi TG k n pc' L (xv (.ref a) :: st) S) : X w mi TG k n pc L st S := by
  obtain ⟨hd, rfl⟩ := h
  intro p l e R s m args below meth c H locs cells slots MC MS ls hC hB hR hS hl hL hst
  exact lv_aload_n hC.1 hC.2.1 hd hq (hl.get hi rfl) (kk p l e R s m args below meth c H locs cells slots MC MS ls hC hB hR hS hl hL (xok_of (v := xv (.ref a)) trivial hst))
theorem xa_strV {i idx : Nat} (hi : i < 6) (h : xd mi.2.1 pc (.getfield idx) 3 pc') (hw : Cond.fieldLink mi.1 idx "java/lang/String" "value" "[B" ∈ xtb) (kk : X w mi TG k n pc' L (xv (.ref (w.2.2.2.2.1 i)) :: st) S) : X w mi TG k n pc L (xp 51 i :: st) S := by
  obtain ⟨hd, rfl⟩ := h
  intro p l e R s m args below meth c H locs cells slots MC MS ls hC hB hR hS hl hL hst
  have hE := (hC.2.2.2.2.2.2.2.2.2.2).2.2.2.1.1
  exact vk_getf (A := xfr w) hC.1 hC.2.1 (hE.1 i hi).2.2.1 hS hC.2.2.2.2.1 (hC.2.2.2.2.2.1 _ hw) (fun _ h9 => h9) hd (kk p l e R s m args below meth c H locs cells slots MC MS ls hC hB hR hS hl hL (xok_of (v := xv (.ref _)) trivial (xok_cons hst).2))
theorem xa_strC {i idx : Nat} (hi : i < 6) (h : xd mi.2.1 pc (.getfield idx) 3 pc') (hw : Cond.fieldLink mi.1 idx "java/lang/String" "coder" "B" ∈ xtb) (kk : X w mi TG k n pc' L (xi 0 :: st) S) : X w mi TG k n pc L (xp 51 i :: st) S := by
  obtain ⟨hd, rfl⟩ := h
  intro p l e R s m args below meth c H locs cells slots MC MS ls hC hB hR hS hl hL hst
  have hE := (hC.2.2.2.2.2.2.2.2.2.2).2.2.2.1.1
  exact vk_getf (A := xfr w) hC.1 hC.2.1 (hE.1 i hi).2.1 hS hC.2.2.2.2.1 (hC.2.2.2.2.2.1 _ hw) (fun _ h9 => h9) hd (kk p l e R s m args below meth c H locs cells slots MC MS ls hC hB hR hS hl hL (xok_of (v := xi 0) trivial (xok_cons hst).2))
theorem xa_strS {idx : Nat} (h : xd mi.2.1 pc (.getstatic idx) 3 pc') (hw : Cond.fieldLink mi.1 idx "java/lang/String" "COMPACT_STRINGS" "Z" ∈ xtb) (kk : X w mi TG k n pc' L (xi 1 :: st) S) : X w mi TG k n pc L st S := by
  obtain ⟨hd, rfl⟩ := h
  intro p l e R s m args below meth c H locs cells slots MC MS ls hC hB hR hS hl hL hst
  have hE := (hC.2.2.2.2.2.2.2.2.2.2).2.2.2.1.2.2.1
  exact va_gets (A := xfr w) hC.1 hC.2.1 hE hS hC.2.2.2.2.1 (hC.2.2.2.2.2.1 _ hw) (fun _ h9 => h9) hd (kk p l e R s m args below meth c H locs cells slots MC MS ls hC hB hR hS hl hL (xok_of (v := xi 1) trivial hst))
theorem xa_strF {idx : Nat} (h : xd mi.2.1 pc (.getstatic idx) 3 pc') (hw : Cond.fieldLink mi.1 idx "jdk/internal/util/Preconditions" "SIOOBE_FORMATTER" "Ljava/util/function/BiFunction;" ∈ xtb) (kN : X w mi TG k n pc' L (xv .null :: st) S) (kR : ∀ t, X w mi TG k n pc' L (xv (.ref t) :: st) S) : X w mi TG k n pc L st S := by
  obtain ⟨hd, rfl⟩ := h
  intro p l e R s m args below meth c H locs cells slots MC MS ls hC hB hR hS hl hL hst
  rcases (hC.2.2.2.2.2.2.2.2.2.2).2.2.2.1.2.2.2 with hE | ⟨t, hE⟩
  · exact va_gets (A := xfr w) hC.1 hC.2.1 hE hS hC.2.2.2.2.1 (hC.2.2.2.2.2.1 _ hw) (fun _ h9 => h9) hd (kN p l e R s m args below meth c H locs cells slots MC MS ls hC hB hR hS hl hL (xok_of (v := xv .null) trivial hst))
  · exact va_gets (A := xfr w) hC.1 hC.2.1 hE hS hC.2.2.2.2.1 (hC.2.2.2.2.2.1 _ hw) (fun _ h9 => h9) hd (kR t p l e R s m args below meth c H locs cells slots MC MS ls hC hB hR hS hl hL (xok_of (v := xv (.ref t)) trivial hst))
theorem xa_strL {i : Nat} (hi : i < 6) (h : xd mi.2.1 pc .arraylength 1 pc') (kk : X w mi TG k n pc' L (xi ((xslen.getD i 0 : Nat) : Int) :: st) S) : X w mi TG k n pc L (xv (.ref (w.2.2.2.2.1 i)) :: st) S := by
  obtain ⟨hd, rfl⟩ := h
  intro p l e R s m args below meth c H locs cells slots MC MS ls hC hB hR hS hl hL hst
  have hE := (hC.2.2.2.2.2.2.2.2.2.2).2.2.2.1.1
  exact va_tlen (A := xfr w) hC.1 hC.2.1 (hE.1 i hi).2.2.2 hS (v := Int32.ofInt ((xslen.getD i 0 : Nat) : Int)) Int32.ofInt_eq_ofNat.symm hd (kk p l e R s m args below meth c H locs cells slots MC MS ls hC hB hR hS hl hL (xok_of (v := xi _) trivial (xok_cons hst).2))
theorem xa_strB {i j : Nat} (hi : i < 6) (h : xd mi.2.1 pc .baload 1 pc') (hj : j < xslen.getD i 0) (hz : xslen.getD i 0 < 2147483648) (kk : X w mi TG k n pc' L (xi ((xsbyt.getD i []).getD j 0).toInt :: st) S) : X w mi TG k n pc L (xi (j : Int) :: xv (.ref (w.2.2.2.2.1 i)) :: st) S := by
  obtain ⟨hd, rfl⟩ := h
  intro p l e R s m args below meth c H locs cells slots MC MS ls hC hB hR hS hl hL hst
  have hE := (hC.2.2.2.2.2.2.2.2.2.2).2.2.2.1.1
  have h9 := kk p l e R s m args below meth c H locs cells slots MC MS ls hC hB hR hS hl hL (xok_of (v := xi ((xsbyt.getD i []).getD j 0).toInt) trivial (xok_cons (xok_cons hst).2).2)
  rw [List.map_cons, show xc w.1 (xi ((xsbyt.getD i []).getD j 0).toInt) = Value.int ((xsbyt.getD i []).getD j 0) from congrArg Value.int (Int32.ofInt_toInt _)] at h9
  have hn : (Int32.ofInt (j : Int)).toNatClampNeg = j := by have z := xn_nat (a := (j : Int)) (by omega) (by omega); simpa using z
  exact va_tb (A := xfr w) hC.1 hC.2.1 (hE.1 i hi).2.2.2 hS (xn_in (a := (j : Int)) (by omega) hz) (by rw [hn]) hd h9
theorem xa_i2c {a : Int} (h : xd mi.2.1 pc .i2c 1 pc') (hv : ((Int32.ofInt a).toUInt32 % 65536).toInt32 = Int32.ofInt a) (kk : X w mi TG k n pc' L (xi a :: st) S) : X w mi TG k n pc L (xi a :: st) S := by
  obtain ⟨hd, rfl⟩ := h
  intro p l e R s m args below meth c H locs cells slots MC MS ls hC hB hR hS hl hL hst
  exact lv_i2c hC.1 hC.2.1 hd hv (kk p l e R s m args below meth c H locs cells slots MC MS ls hC hB hR hS hl hL (xok_of (v := xi a) trivial (xok_cons hst).2))
theorem xa_nret {a : Int} {ty : FieldType} (h : xd mi.2.1 pc .ireturn 1 pc') (hr : mi.2.2.2.1 = some ty) (ha : narrow ty (.int (Int32.ofInt a)) = .int (Int32.ofInt a)) (hq : A (some (xi a)) S) : X w mi (xTG w A B) k n pc L [xi a] S := by
  obtain ⟨hd, rfl⟩ := h
  intro p l e R s m args below meth c H locs cells slots MC MS ls hC hB hR hS hl hL hst
  refine W.widen (k := MC) (n := MS) (by omega) (by omega) (vx_ret ?_)
  exact W.zret (v := Int32.ofInt a) hC.1 hC.2.1 (hC.2.2.1.trans hr) ha (fun t ht hW => ⟨⟨some (xi a), S, rfl, fun u e => by cases e; trivial, hq, by rw [ht]; exact hR⟩, hS.F ht⟩) hS.2.2 hd hC.2.2.2.2.2.2.1
end SR
section SC
variable {w : xW} {mi mi' : xM} {TG : xT} {k n k1 n1 pc pc' : Nat} {L st as : List xV} {S : xS} {A : Option xV → xS → Prop} {B : String → xS → Prop} {y : MethodName}
theorem xa_callT {z idx : Nat} (hz : z < 6) (hyc : y.cls = "java/lang/String") (h : xd mi.2.1 pc (.invokevirtual idx) 3 pc') (hw : ∀ u ∈ [Cond.methodLink mi.1 idx y, .instanceMethod y, .selects y.cls y y, .initialized y.cls, .code y mi'.2.1 mi'.2.2.1 mi'.2.2.2.1], u ∈ xtb) (hh : mi'.2.2.2.2.1 = []) (hcl : xcl mi mi' y as.length)
    (hsum : (st.map fun v => if xcat2 v then 2 else 1).sum ≤ 8) (hk : k1 ≤ k ∧ n1 ≤ n) (hK : K w mi' y k1 n1 (xp 51 z :: as) S A B)
    (hA : ∀ v S', A v S' → X w mi TG (k - k1) (n - n1) pc' L (v.toList ++ st) S') (hX : ∀ E S', B E S' → XT w mi TG (k - k1) (n - n1) pc L st E S') (hj : st.all (fun v => !xjk v) = true) : X w mi TG k n pc L (as.reverse ++ xp 51 z :: st) S := by
  obtain ⟨hd, rfl⟩ := h
  intro p l e R s m args below meth c H locs cells slots MC MS ls hC hB hR hS hl hL hst
  have hok : ∀ v ∈ xp 51 z :: as, xok v := fun v hv => hst v (by
    rcases List.mem_cons.mp hv with h | h
    · exact List.mem_append_right _ (by rw [h]; exact List.mem_cons_self)
    · exact List.mem_append_left _ (List.mem_reverse.mpr h))
  have hst2 : ∀ v ∈ st, xok v := fun v hv => hst v (List.mem_append_right _ (List.mem_cons_of_mem _ hv))
  have e0 : xw0 mi' y = .code y mi'.2.1 mi'.2.2.1 mi'.2.2.2.1 := by unfold xw0; rw [hh]
  have hG : GoodIn xtb (wsV mi.1 idx y.cls y (xws mi' y)) := by
    intro u hu
    have h9 : u ∈ xtb := by
      unfold wsV xws at hu
      rw [e0] at hu
      rcases List.mem_append.mp hu with h | h
      · exact hw u (by simp only [List.mem_cons, List.not_mem_nil, or_false] at h ⊢; rcases h with h | h | h | h <;> simp [h])
      · rcases List.mem_cons.mp h with h | h
        · exact hw u (by rw [h]; simp)
        · exact h
    exact xtb_good (fun _ h => h) u h9
  have hrc := hcl.2
  refine xa_run (k1 := k1) (n1 := n1) (a := (Value.ref (w.1 51 z) :: as.map (xc w.1)).toArray) hC hB hS hl hL hst2 hk ?_ hA hX
  refine vx_runV (As := as.map (xc w.1)) (rest := st.map (xc w.1)) (b := w.1 51 z) (C := y.cls) (index := idx) (maxL := mi'.2.2.1) (ret := mi'.2.2.2.1) (bytes := mi'.2.1) (n := as.length) (nL := mi.2.2.1) (cc := mi.2.1) (own := mi.1) (Ts := xtb) ⟨hC.1, hC.2.1, hC.2.2.2.1, hC.2.2.2.2.1, hC.2.2.2.2.2.1⟩ (hK l hC.2.2.2.2.2.2.2.2.2.1 hok)
    (cwV (ws' := xtb) as.length hC.2.2.2.2.2.1 hG (by rw [xws, e0]) rfl rfl ⟨rfl, hcl.1⟩ ⟨Nat.le_trans hrc.1 hC.2.2.2.2.2.2.2.2.1.1, Nat.le_trans hrc.2 hC.2.2.2.2.2.2.2.2.1.2⟩)
    ⟨xPc_blind, hyc ▸ vk_recv (hC.2.2.2.2.2.2.2.2.2.2).2.2.2.1.1 hz hS, fun U hU hW => ⟨rfl, xPc_at hR hC.2.2.2.2.2.2.2.2.2.2 hS U hU hW⟩⟩ rfl (List.length_map _) hl.2.1 ?_ ?_ hd ?_
  · show List.map (xc w.1) (as.reverse ++ xp 51 z :: st) = _
    rw [List.map_append, List.map_reverse]
    rfl
  · show 2 * 0 + _ ≤ 8
    rw [List.map_map]
    have e9 : ∀ v ∈ st, ((fun v => v.category) ∘ xc w.1) v = if xcat2 v then 2 else 1 := by
      intro v hv
      have hjv : xjk v = false := by simpa using List.all_eq_true.mp hj v hv
      show (xc w.1 v).category = _
      by_cases q : xcat2 v = true
      · rw [if_pos q]; exact (xcat_iff hjv).mpr q
      · rw [if_neg q]; exact xn_cat1 (by simpa using q)
    rw [List.map_congr_left e9]
    omega
  · omega
theorem xa_callC {idx : Nat} (h : xd mi.2.1 pc (.invokestatic idx) 3 pc') (hw : ∀ u ∈ [Cond.methodLink mi.1 idx y, .static y, .initialized y.cls, .code y mi'.2.1 mi'.2.2.1 mi'.2.2.2.1], u ∈ xtb) (hh : mi'.2.2.2.2.1 = []) (hcl : xcl mi mi' y as.length)
    (hsum : (st.map fun v => if xcat2 v then 2 else 1).sum ≤ 8) (hk : k1 ≤ k ∧ n1 ≤ n) (hK : K w mi' y k1 n1 as S A B)
    (hA : ∀ v S', A v S' → X w mi TG (k - k1) (n - n1) pc' L (v.toList ++ st) S') (hX : ∀ E S', B E S' → XT w mi TG (k - k1) (n - n1) pc L st E S') (hj : st.all (fun v => !xjk v) = true) : X w mi TG k n pc L (as.reverse ++ st) S := by
  obtain ⟨hd, rfl⟩ := h
  intro p l e R s m args below meth c H locs cells slots MC MS ls hC hB hR hS hl hL hst
  have hok : ∀ v ∈ as, xok v := fun v hv => hst v (List.mem_append_left _ (List.mem_reverse.mpr hv))
  have hst2 : ∀ v ∈ st, xok v := fun v hv => hst v (List.mem_append_right _ hv)
  have e0 : xw0 mi' y = .code y mi'.2.1 mi'.2.2.1 mi'.2.2.2.1 := by unfold xw0; rw [hh]
  have hG : GoodIn xtb (va_wsS mi.1 idx y (xws mi' y)) := by
    intro u hu
    have h9 : u ∈ xtb := by
      unfold va_wsS xws at hu
      rw [e0] at hu
      rcases List.mem_append.mp hu with h | h
      · exact hw u (by simp only [List.mem_cons, List.not_mem_nil, or_false] at h ⊢; rcases h with h | h | h <;> simp [h])
      · rcases List.mem_cons.mp h with h | h
        · exact hw u (by rw [h]; simp)
        · exact h
    exact xtb_good (fun _ h => h) u h9
  have hrc := hcl.2
  refine xa_run (k1 := k1) (n1 := n1) (a := (as.map (xc w.1)).toArray) hC hB hS hl hL hst2 hk ?_ hA hX
  refine vx_runS (As := as.map (xc w.1)) (rest := st.map (xc w.1)) (index := idx) (maxL := mi'.2.2.1) (ret := mi'.2.2.2.1) (bytes := mi'.2.1) (n := as.length) (nL := mi.2.2.1) (cc := mi.2.1) (own := mi.1) (Ts := xtb) ⟨hC.1, hC.2.1, hC.2.2.2.1, hC.2.2.2.2.1, hC.2.2.2.2.2.1⟩ (hK l hC.2.2.2.2.2.2.2.2.2.1 hok)
    (va_cwS (ws' := xtb) as.length hC.2.2.2.2.2.1 hG (by rw [xws, e0]) rfl rfl hcl.1 ⟨Nat.le_trans hrc.1 hC.2.2.2.2.2.2.2.2.1.1, Nat.le_trans hrc.2 hC.2.2.2.2.2.2.2.2.1.2⟩)
    ⟨xPc_blind, fun U hU hW => ⟨rfl, xPc_at hR hC.2.2.2.2.2.2.2.2.2.2 hS U hU hW⟩⟩ rfl (List.length_map _) hl.2.1 ?_ ?_ hd ?_
  · show List.map (xc w.1) (as.reverse ++ st) = _
    rw [List.map_append, List.map_reverse]
  · show 2 * 0 + _ ≤ 8
    rw [List.map_map]
    have e9 : ∀ v ∈ st, ((fun v => v.category) ∘ xc w.1) v = if xcat2 v then 2 else 1 := by
      intro v hv
      have hjv : xjk v = false := by simpa using List.all_eq_true.mp hj v hv
      show (xc w.1 v).category = _
      by_cases q : xcat2 v = true
      · rw [if_pos q]; exact (xcat_iff hjv).mpr q
      · rw [if_neg q]; exact xn_cat1 (by simpa using q)
    rw [List.map_congr_left e9]
    omega
  · omega
end SC
