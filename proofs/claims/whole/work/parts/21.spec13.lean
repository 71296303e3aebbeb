theorem kw_181_ : Cond.fieldLink R_Str 38 "java/lang/String" "COMPACT_STRINGS" "Z" ∈ gT := gT_in 293 (by decide +kernel) (by decide +kernel)
theorem kw_182_ : Cond.fieldLink R_Str 15 "java/lang/String" "coder" "B" ∈ gT := gT_in 850 (by decide +kernel) (by decide +kernel)
theorem kw_183_ : Cond.fieldLink R_Str 9 "java/lang/String" "value" "[B" ∈ gT := gT_in 849 (by decide +kernel) (by decide +kernel)
theorem kw_184_ : Cond.fieldLink R_Str 1053 "jdk/internal/util/Preconditions" "SIOOBE_FORMATTER" "Ljava/util/function/BiFunction;" ∈ gT := gT_in 309 (by decide +kernel) (by decide +kernel)
theorem kw_185_ : Cond.initialized R_Str ∈ gT := gT_in 11 (by decide +kernel) (by decide +kernel)
theorem kw_186_ : Cond.methodLink R_Str 335 y_Str_coder ∈ gT := gT_in 289 (by decide +kernel) (by decide +kernel)
theorem kw_187_ : Cond.instanceMethod y_Str_coder ∈ gT := gT_in 290 (by decide +kernel) (by decide +kernel)
theorem kw_188_ : Cond.selects R_Str y_Str_coder y_Str_coder ∈ gT := gT_in 291 (by decide +kernel) (by decide +kernel)
theorem kw_189_ : Cond.initialized R_Pre ∈ gT := gT_in 13 (by decide +kernel) (by decide +kernel)
theorem kw_190_ : Cond.static y_Pre_checkIndex ∈ gT := gT_in 312 (by decide +kernel) (by decide +kernel)
theorem kw_191_ : Cond.methodLink R_Str 1059 y_Pre_checkIndex ∈ gT := gT_in 311 (by decide +kernel) (by decide +kernel)
theorem kw_192_ : Cond.static y_Str_checkIndex ∈ gT := gT_in 307 (by decide +kernel) (by decide +kernel)
theorem kw_193_ : Cond.methodLink R_Lat 9 y_Str_checkIndex ∈ gT := gT_in 306 (by decide +kernel) (by decide +kernel)
theorem kw_194_ : Cond.methodLink R_Str 492 y_Str_isLatin1 ∈ gT := gT_in 299 (by decide +kernel) (by decide +kernel)
theorem kw_195_ : Cond.instanceMethod y_Str_isLatin1 ∈ gT := gT_in 300 (by decide +kernel) (by decide +kernel)
theorem kw_196_ : Cond.selects R_Str y_Str_isLatin1 y_Str_isLatin1 ∈ gT := gT_in 301 (by decide +kernel) (by decide +kernel)
theorem kw_197_ : Cond.initialized R_Lat ∈ gT := gT_in 12 (by decide +kernel) (by decide +kernel)
theorem kw_198_ : Cond.static y_Lat_charAt ∈ gT := gT_in 304 (by decide +kernel) (by decide +kernel)
theorem kw_199_ : Cond.methodLink R_Str 495 y_Lat_charAt ∈ gT := gT_in 303 (by decide +kernel) (by decide +kernel)
theorem kw_200_ : Cond.methodLink R_Sheet 17 y_Str_length ∈ gT := gT_in 285 (by decide +kernel) (by decide +kernel)
theorem kw_201_ : Cond.instanceMethod y_Str_length ∈ gT := gT_in 286 (by decide +kernel) (by decide +kernel)
theorem kw_202_ : Cond.selects R_Str y_Str_length y_Str_length ∈ gT := gT_in 287 (by decide +kernel) (by decide +kernel)
theorem kw_203_ : Cond.methodLink R_Sheet 22 y_Str_charAt ∈ gT := gT_in 295 (by decide +kernel) (by decide +kernel)
theorem kw_204_ : Cond.instanceMethod y_Str_charAt ∈ gT := gT_in 296 (by decide +kernel) (by decide +kernel)
theorem kw_205_ : Cond.selects R_Str y_Str_charAt y_Str_charAt ∈ gT := gT_in 297 (by decide +kernel) (by decide +kernel)
set_option maxRecDepth 100000 in
theorem q_y_Str_coder : Cond.code y_Str_coder b_Str_coder 1 (some .byte) ∈ gT := gT_in 292 rfl rfl
set_option maxRecDepth 100000 in
theorem q_y_Pre_checkIndex : Cond.code y_Pre_checkIndex b_Pre_checkIndex 3 (some .int) ∈ gT := gT_in 313 rfl rfl
set_option maxRecDepth 100000 in
theorem q_y_Str_checkIndex : Cond.code y_Str_checkIndex b_Str_checkIndex 2 none ∈ gT := gT_in 308 rfl rfl
set_option maxRecDepth 100000 in
theorem q_y_Str_isLatin1 : Cond.code y_Str_isLatin1 b_Str_isLatin1 1 (some .boolean) ∈ gT := gT_in 302 rfl rfl
set_option maxRecDepth 100000 in
theorem q_y_Lat_charAt : Cond.code y_Lat_charAt b_Lat_charAt 2 (some .char) ∈ gT := gT_in 305 rfl rfl
set_option maxRecDepth 100000 in
theorem q_y_Str_length : Cond.code y_Str_length b_Str_length 1 (some .int) ∈ gT := gT_in 288 rfl rfl
set_option maxRecDepth 100000 in
theorem q_y_Str_charAt : Cond.code y_Str_charAt b_Str_charAt 2 (some .char) ∈ gT := gT_in 298 rfl rfl
theorem hd_y_Str_coder : y_Str_coder.cls ≠ "java/lang/invoke/MethodHandle" ∧ y_Str_coder.cls ≠ "java/lang/invoke/VarHandle" ∧ (parseMethodDescriptor y_Str_coder.desc).map (fun d => d.parameters.length) = some 0 := by decide +kernel
theorem hd_y_Pre_checkIndex : y_Pre_checkIndex.cls ≠ "java/lang/invoke/MethodHandle" ∧ y_Pre_checkIndex.cls ≠ "java/lang/invoke/VarHandle" ∧ (parseMethodDescriptor y_Pre_checkIndex.desc).map (fun d => d.parameters.length) = some 3 := by decide +kernel
theorem hd_y_Str_checkIndex : y_Str_checkIndex.cls ≠ "java/lang/invoke/MethodHandle" ∧ y_Str_checkIndex.cls ≠ "java/lang/invoke/VarHandle" ∧ (parseMethodDescriptor y_Str_checkIndex.desc).map (fun d => d.parameters.length) = some 2 := by decide +kernel
theorem hd_y_Str_isLatin1 : y_Str_isLatin1.cls ≠ "java/lang/invoke/MethodHandle" ∧ y_Str_isLatin1.cls ≠ "java/lang/invoke/VarHandle" ∧ (parseMethodDescriptor y_Str_isLatin1.desc).map (fun d => d.parameters.length) = some 0 := by decide +kernel
theorem hd_y_Lat_charAt : y_Lat_charAt.cls ≠ "java/lang/invoke/MethodHandle" ∧ y_Lat_charAt.cls ≠ "java/lang/invoke/VarHandle" ∧ (parseMethodDescriptor y_Lat_charAt.desc).map (fun d => d.parameters.length) = some 2 := by decide +kernel
theorem hd_y_Str_length : y_Str_length.cls ≠ "java/lang/invoke/MethodHandle" ∧ y_Str_length.cls ≠ "java/lang/invoke/VarHandle" ∧ (parseMethodDescriptor y_Str_length.desc).map (fun d => d.parameters.length) = some 0 := by decide +kernel
theorem hd_y_Str_charAt : y_Str_charAt.cls ≠ "java/lang/invoke/MethodHandle" ∧ y_Str_charAt.cls ≠ "java/lang/invoke/VarHandle" ∧ (parseMethodDescriptor y_Str_charAt.desc).map (fun d => d.parameters.length) = some 1 := by decide +kernel
theorem d_Str_coder_0 : decode b_Str_coder 0 = .ok (.getstatic 38, 3) := by decide +kernel
theorem d_Str_coder_3 : decode b_Str_coder 3 = .ok (.ifCond .eq 10, 3) := by decide +kernel
theorem d_Str_coder_6 : decode b_Str_coder 6 = .ok (.aload_n 0, 1) := by decide +kernel
theorem d_Str_coder_7 : decode b_Str_coder 7 = .ok (.getfield 15, 3) := by decide +kernel
theorem d_Str_coder_10 : decode b_Str_coder 10 = .ok (.goto 4, 3) := by decide +kernel
theorem d_Str_coder_13 : decode b_Str_coder 13 = .ok (.iconst 1, 1) := by decide +kernel
theorem d_Str_coder_14 : decode b_Str_coder 14 = .ok (.ireturn, 1) := by decide +kernel
theorem d_Str_isLatin1_0 : decode b_Str_isLatin1 0 = .ok (.getstatic 38, 3) := by decide +kernel
theorem d_Str_isLatin1_3 : decode b_Str_isLatin1 3 = .ok (.ifCond .eq 14, 3) := by decide +kernel
theorem d_Str_isLatin1_6 : decode b_Str_isLatin1 6 = .ok (.aload_n 0, 1) := by decide +kernel
theorem d_Str_isLatin1_7 : decode b_Str_isLatin1 7 = .ok (.getfield 15, 3) := by decide +kernel
theorem d_Str_isLatin1_10 : decode b_Str_isLatin1 10 = .ok (.ifCond .ne 7, 3) := by decide +kernel
theorem d_Str_isLatin1_13 : decode b_Str_isLatin1 13 = .ok (.iconst 1, 1) := by decide +kernel
theorem d_Str_isLatin1_14 : decode b_Str_isLatin1 14 = .ok (.goto 4, 3) := by decide +kernel
theorem d_Str_isLatin1_17 : decode b_Str_isLatin1 17 = .ok (.iconst 0, 1) := by decide +kernel
theorem d_Str_isLatin1_18 : decode b_Str_isLatin1 18 = .ok (.ireturn, 1) := by decide +kernel
theorem d_Str_length_0 : decode b_Str_length 0 = .ok (.aload_n 0, 1) := by decide +kernel
theorem d_Str_length_1 : decode b_Str_length 1 = .ok (.getfield 9, 3) := by decide +kernel
theorem d_Str_length_4 : decode b_Str_length 4 = .ok (.arraylength, 1) := by decide +kernel
theorem d_Str_length_5 : decode b_Str_length 5 = .ok (.aload_n 0, 1) := by decide +kernel
theorem d_Str_length_6 : decode b_Str_length 6 = .ok (.invokevirtual 335, 3) := by decide +kernel
theorem d_Str_length_9 : decode b_Str_length 9 = .ok (.ishr, 1) := by decide +kernel
theorem d_Str_length_10 : decode b_Str_length 10 = .ok (.ireturn, 1) := by decide +kernel
theorem d_Pre_checkIndex_0 : decode b_Pre_checkIndex 0 = .ok (.iload_n 0, 1) := by decide +kernel
theorem d_Pre_checkIndex_1 : decode b_Pre_checkIndex 1 = .ok (.ifCond .lt 8, 3) := by decide +kernel
theorem d_Pre_checkIndex_4 : decode b_Pre_checkIndex 4 = .ok (.iload_n 0, 1) := by decide +kernel
theorem d_Pre_checkIndex_5 : decode b_Pre_checkIndex 5 = .ok (.iload_n 1, 1) := by decide +kernel
theorem d_Pre_checkIndex_6 : decode b_Pre_checkIndex 6 = .ok (.if_icmp .lt 10, 3) := by decide +kernel
theorem d_Pre_checkIndex_9 : decode b_Pre_checkIndex 9 = .ok (.aload_n 2, 1) := by decide +kernel
theorem d_Pre_checkIndex_10 : decode b_Pre_checkIndex 10 = .ok (.iload_n 0, 1) := by decide +kernel
theorem d_Pre_checkIndex_11 : decode b_Pre_checkIndex 11 = .ok (.iload_n 1, 1) := by decide +kernel
theorem d_Pre_checkIndex_12 : decode b_Pre_checkIndex 12 = .ok (.invokestatic 95, 3) := by decide +kernel
theorem d_Pre_checkIndex_15 : decode b_Pre_checkIndex 15 = .ok (.athrow, 1) := by decide +kernel
theorem d_Pre_checkIndex_16 : decode b_Pre_checkIndex 16 = .ok (.iload_n 0, 1) := by decide +kernel
theorem d_Pre_checkIndex_17 : decode b_Pre_checkIndex 17 = .ok (.ireturn, 1) := by decide +kernel
theorem d_Str_checkIndex_0 : decode b_Str_checkIndex 0 = .ok (.iload_n 0, 1) := by decide +kernel
theorem d_Str_checkIndex_1 : decode b_Str_checkIndex 1 = .ok (.iload_n 1, 1) := by decide +kernel
theorem d_Str_checkIndex_2 : decode b_Str_checkIndex 2 = .ok (.getstatic 1053, 3) := by decide +kernel
theorem d_Str_checkIndex_5 : decode b_Str_checkIndex 5 = .ok (.invokestatic 1059, 3) := by decide +kernel
theorem d_Str_checkIndex_8 : decode b_Str_checkIndex 8 = .ok (.pop, 1) := by decide +kernel
theorem d_Str_checkIndex_9 : decode b_Str_checkIndex 9 = .ok (.return_, 1) := by decide +kernel
theorem d_Lat_charAt_0 : decode b_Lat_charAt 0 = .ok (.iload_n 1, 1) := by decide +kernel
theorem d_Lat_charAt_1 : decode b_Lat_charAt 1 = .ok (.aload_n 0, 1) := by decide +kernel
theorem d_Lat_charAt_2 : decode b_Lat_charAt 2 = .ok (.arraylength, 1) := by decide +kernel
theorem d_Lat_charAt_3 : decode b_Lat_charAt 3 = .ok (.invokestatic 9, 3) := by decide +kernel
theorem d_Lat_charAt_6 : decode b_Lat_charAt 6 = .ok (.aload_n 0, 1) := by decide +kernel
theorem d_Lat_charAt_7 : decode b_Lat_charAt 7 = .ok (.iload_n 1, 1) := by decide +kernel
theorem d_Lat_charAt_8 : decode b_Lat_charAt 8 = .ok (.baload, 1) := by decide +kernel
theorem d_Lat_charAt_9 : decode b_Lat_charAt 9 = .ok (.sipush 255, 3) := by decide +kernel
theorem d_Lat_charAt_12 : decode b_Lat_charAt 12 = .ok (.iand, 1) := by decide +kernel
theorem d_Lat_charAt_13 : decode b_Lat_charAt 13 = .ok (.i2c, 1) := by decide +kernel
theorem d_Lat_charAt_14 : decode b_Lat_charAt 14 = .ok (.ireturn, 1) := by decide +kernel
theorem d_Str_charAt_0 : decode b_Str_charAt 0 = .ok (.aload_n 0, 1) := by decide +kernel
theorem d_Str_charAt_1 : decode b_Str_charAt 1 = .ok (.invokevirtual 492, 3) := by decide +kernel
theorem d_Str_charAt_4 : decode b_Str_charAt 4 = .ok (.ifCond .eq 12, 3) := by decide +kernel
theorem d_Str_charAt_7 : decode b_Str_charAt 7 = .ok (.aload_n 0, 1) := by decide +kernel
theorem d_Str_charAt_8 : decode b_Str_charAt 8 = .ok (.getfield 9, 3) := by decide +kernel
theorem d_Str_charAt_11 : decode b_Str_charAt 11 = .ok (.iload_n 1, 1) := by decide +kernel
theorem d_Str_charAt_12 : decode b_Str_charAt 12 = .ok (.invokestatic 495, 3) := by decide +kernel
theorem d_Str_charAt_15 : decode b_Str_charAt 15 = .ok (.ireturn, 1) := by decide +kernel
theorem d_Str_charAt_16 : decode b_Str_charAt 16 = .ok (.aload_n 0, 1) := by decide +kernel
theorem d_Str_charAt_17 : decode b_Str_charAt 17 = .ok (.getfield 9, 3) := by decide +kernel
theorem d_Str_charAt_20 : decode b_Str_charAt 20 = .ok (.iload_n 1, 1) := by decide +kernel
theorem d_Str_charAt_21 : decode b_Str_charAt 21 = .ok (.invokestatic 498, 3) := by decide +kernel
theorem d_Str_charAt_24 : decode b_Str_charAt 24 = .ok (.ireturn, 1) := by decide +kernel
theorem d_Sheet_putText_0 : decode b_Sheet_putText 0 = .ok (.iconst 0, 1) := by decide +kernel
theorem d_Sheet_putText_1 : decode b_Sheet_putText 1 = .ok (.istore_n 2, 1) := by decide +kernel
theorem d_Sheet_putText_2 : decode b_Sheet_putText 2 = .ok (.iload_n 2, 1) := by decide +kernel
theorem d_Sheet_putText_3 : decode b_Sheet_putText 3 = .ok (.aload_n 1, 1) := by decide +kernel
theorem d_Sheet_putText_4 : decode b_Sheet_putText 4 = .ok (.invokevirtual 17, 3) := by decide +kernel
theorem d_Sheet_putText_7 : decode b_Sheet_putText 7 = .ok (.if_icmp .ge 18, 3) := by decide +kernel
theorem d_Sheet_putText_10 : decode b_Sheet_putText 10 = .ok (.aload_n 0, 1) := by decide +kernel
theorem d_Sheet_putText_11 : decode b_Sheet_putText 11 = .ok (.aload_n 1, 1) := by decide +kernel
theorem d_Sheet_putText_12 : decode b_Sheet_putText 12 = .ok (.iload_n 2, 1) := by decide +kernel
theorem d_Sheet_putText_13 : decode b_Sheet_putText 13 = .ok (.invokevirtual 22, 3) := by decide +kernel
theorem d_Sheet_putText_16 : decode b_Sheet_putText 16 = .ok (.invokevirtual 26, 3) := by decide +kernel
theorem d_Sheet_putText_19 : decode b_Sheet_putText 19 = .ok (.iinc 2 1, 3) := by decide +kernel
theorem d_Sheet_putText_22 : decode b_Sheet_putText 22 = .ok (.goto (-20), 3) := by decide +kernel
theorem d_Sheet_putText_25 : decode b_Sheet_putText 25 = .ok (.return_, 1) := by decide +kernel
theorem tx_byte : ∀ i, i < 9 → ∀ j, j < txL.getD i 0 → (txY.getD i []).getD j 0 = iZ (((txB.getD i []).getD j 0 : Nat) : Int) ∧ (txB.getD i []).getD j 0 < 128 := by decide +kernel
theorem tx_len : ∀ i, i < 9 → txL.getD i 0 = (txB.getD i []).length ∧ txL.getD i 0 ≤ 36 := by decide +kernel
theorem and_255 : ∀ x : Nat, x < 128 → iZ ((x : Nat) : Int) &&& iZ 255 = iZ ((x : Nat) : Int) := by decide +kernel
theorem char_nar : ∀ x : Nat, x < 128 → narrow .char (.int (iZ ((x : Nat) : Int))) = .int (iZ ((x : Nat) : Int)) := by decide +kernel
theorem take_more {l : List Nat} {k : Nat} (h : k < l.length) : l.take (k + 1) = l.take k ++ [l.getD k 0] := by
  rw [List.take_succ, List.getD_eq_getElem?_getD, List.getElem?_eq_getElem h]
  rfl
theorem text_room {t l : List Nat} {k : Nat} (h : t.length + 36 ≤ 1440) (hk : k < 36) : (t ++ l.take k).length < 1440 := by
  rw [List.length_append, List.length_take]
  omega
abbrev Qc_Str_coder (D : va_G) (i : Nat) (A : Nat → Prop) : Array Value → State → Outcome → State → Prop := vp_Si (fun r : Int32 => r = iZ (0))
set_option maxHeartbeats 4000000 in
set_option maxRecDepth 100000 in
theorem c_Str_coder (l : Launch) (D : va_G) (Z : Nat → Nat) (hz9 : Nat) (i : Nat) (hi : i < 9) : Met l y_Str_coder (.code y_Str_coder b_Str_coder 1 (some .byte) :: gT) ({ frames := 0, cells := 0, slots := 0, locals := 0 } : Room) (va_Pc [.ref (Z (1 + 2 * i))] (cpre D Z [] [] hz9)) (Qc_Str_coder D i (va_A [] hz9)) 0 0 (fun _ => False) := by
  refine met_go (Qf := Qc_Str_coder D i) (ff := fun _ _ => False) (by decide) ?_
  intro p e s m below meth c A C0 hin hsz9 hA hE hK hP hD
  obtain ⟨hx, hb, hml, hown, hts, hr, hlocks⟩ := id C0
  have hS : va_S A s.heap s.heap [] := va_S.rf
  have hl := lv_entry [.ref (Z (1 + 2 * i))] (n := 1) (Nat.le_of_ble_eq_true rfl)
  rw [lg_entry_eq]
  generalize (lg_sl [.ref (Z (1 + 2 * i))] ++ List.replicate (1 - (lg_sl [.ref (Z (1 + 2 * i))]).length) Slot.unset).toArray = ls at hl ⊢
  have hl : lv_has ls 1 [(0, .ref (Z (1 + 2 * i)))] := hl
  refine va_gets (C := "java/lang/String") hx hb hE.cs hS hown (hts _ kw_181_) (fun _ h9 => h9) d_Str_coder_0 ?_
  refine zv_top (y := iZ 1) (by decide) ?_
  refine zv_if_eq (tgt := 13) hx hb d_Str_coder_3 (by decide) (by omega) (fun c3 => absurd c3 (by decide)) (fun c3 => ?_)
  refine lv_aload_n hx hb d_Str_coder_6 rfl (lv_at hl 0 rfl) ?_
  refine vk_getf (o := "java/lang/String") (n := "coder") (d := "B") (v := .int 0) hx hb (hE.str.1 i hi).2.1 hS hown (hts _ kw_182_) (fun _ h9 => h9) d_Str_coder_7 ?_
  refine zv_top (y := iZ 0) (by decide) ?_
  refine lv_goto (tgt := 14) hx hb d_Str_coder_10 (by decide) ?_
  exact er_z hx hb hr hlocks (by decide) d_Str_coder_14 (show iZ (0) = iZ (0) from rfl)
abbrev Qc_Str_isLatin1 (D : va_G) (i : Nat) (A : Nat → Prop) : Array Value → State → Outcome → State → Prop := vp_Si (fun r : Int32 => r = iZ (1))
set_option maxHeartbeats 4000000 in
set_option maxRecDepth 100000 in
theorem c_Str_isLatin1 (l : Launch) (D : va_G) (Z : Nat → Nat) (hz9 : Nat) (i : Nat) (hi : i < 9) : Met l y_Str_isLatin1 (.code y_Str_isLatin1 b_Str_isLatin1 1 (some .boolean) :: gT) ({ frames := 0, cells := 0, slots := 0, locals := 0 } : Room) (va_Pc [.ref (Z (1 + 2 * i))] (cpre D Z [] [] hz9)) (Qc_Str_isLatin1 D i (va_A [] hz9)) 0 0 (fun _ => False) := by
  refine met_go (Qf := Qc_Str_isLatin1 D i) (ff := fun _ _ => False) (by decide) ?_
  intro p e s m below meth c A C0 hin hsz9 hA hE hK hP hD
  obtain ⟨hx, hb, hml, hown, hts, hr, hlocks⟩ := id C0
  have hS : va_S A s.heap s.heap [] := va_S.rf
  have hl := lv_entry [.ref (Z (1 + 2 * i))] (n := 1) (Nat.le_of_ble_eq_true rfl)
  rw [lg_entry_eq]
  generalize (lg_sl [.ref (Z (1 + 2 * i))] ++ List.replicate (1 - (lg_sl [.ref (Z (1 + 2 * i))]).length) Slot.unset).toArray = ls at hl ⊢
  have hl : lv_has ls 1 [(0, .ref (Z (1 + 2 * i)))] := hl
  refine va_gets (C := "java/lang/String") hx hb hE.cs hS hown (hts _ kw_181_) (fun _ h9 => h9) d_Str_isLatin1_0 ?_
  refine zv_top (y := iZ 1) (by decide) ?_
  refine zv_if_eq (tgt := 17) hx hb d_Str_isLatin1_3 (by decide) (by omega) (fun c3 => absurd c3 (by decide)) (fun c3 => ?_)
  refine lv_aload_n hx hb d_Str_isLatin1_6 rfl (lv_at hl 0 rfl) ?_
  refine vk_getf (o := "java/lang/String") (n := "coder") (d := "B") (v := .int 0) hx hb (hE.str.1 i hi).2.1 hS hown (hts _ kw_182_) (fun _ h9 => h9) d_Str_isLatin1_7 ?_
  refine zv_top (y := iZ 0) (by decide) ?_
  refine zv_if_ne (tgt := 17) hx hb d_Str_isLatin1_10 (by decide) (by omega) (fun c10 => absurd c10 (by decide)) (fun c10 => ?_)
  refine lv_iconst (v := iZ (1)) hx hb d_Str_isLatin1_13 rfl ?_
  refine lv_goto (tgt := 18) hx hb d_Str_isLatin1_14 (by decide) ?_
  exact er_z hx hb hr hlocks (by decide) d_Str_isLatin1_18 (show iZ (1) = iZ (1) from rfl)
abbrev Qc_Str_length (D : va_G) (i : Nat) (A : Nat → Prop) : Array Value → State → Outcome → State → Prop := vp_Si (fun r : Int32 => r = iZ (((txL.getD i 0 : Nat) : Int)))
set_option maxHeartbeats 4000000 in
set_option maxRecDepth 100000 in
theorem c_Str_length (l : Launch) (D : va_G) (Z : Nat → Nat) (hz9 : Nat) (i : Nat) (hi : i < 9) : Met l y_Str_length (.code y_Str_length b_Str_length 1 (some .int) :: gT) ({ frames := 1, cells := 0, slots := 0, locals := 20 } : Room) (va_Pc [.ref (Z (1 + 2 * i))] (cpre D Z [] [] hz9)) (Qc_Str_length D i (va_A [] hz9)) 0 0 (fun _ => False) := by
  refine met_go (Qf := Qc_Str_length D i) (ff := fun _ _ => False) (by decide) ?_
  intro p e s m below meth c A C0 hin hsz9 hA hE hK hP hD
  obtain ⟨hx, hb, hml, hown, hts, hr, hlocks⟩ := id C0
  have hS : va_S A s.heap s.heap [] := va_S.rf
  have hl := lv_entry [.ref (Z (1 + 2 * i))] (n := 1) (Nat.le_of_ble_eq_true rfl)
  rw [lg_entry_eq]
  generalize (lg_sl [.ref (Z (1 + 2 * i))] ++ List.replicate (1 - (lg_sl [.ref (Z (1 + 2 * i))]).length) Slot.unset).toArray = ls at hl ⊢
  have hl : lv_has ls 1 [(0, .ref (Z (1 + 2 * i)))] := hl
  refine lv_aload_n hx hb d_Str_length_0 rfl (lv_at hl 0 rfl) ?_
  refine vk_getf (o := "java/lang/String") (n := "value") (d := "[B") (v := .ref (Z (2 + 2 * i))) hx hb (hE.str.1 i hi).2.2.1 hS hown (hts _ kw_183_) (fun _ h9 => h9) d_Str_length_1 ?_
  refine va_tlen (v := iZ ((txL.getD i 0 : Nat) : Int)) hx hb (hE.str.1 i hi).2.2.2 hS (iZ_nat _).symm d_Str_length_4 ?_
  refine lv_aload_n hx hb d_Str_length_5 rfl (lv_at hl 0 rfl) ?_
  refine kg_i (kr_VK (i := i) (by assumption) (As := []) (rest := [.int (iZ (((txL.getD i 0 : Nat) : Int)))]) C0 (c_Str_coder l D Z _ i (by assumption)) q_y_Str_coder kw_186_ kw_187_ kw_188_ kw_185_ hd_y_Str_coder rfl rfl ⟨Nat.le_of_ble_eq_true rfl, Nat.le_of_ble_eq_true rfl⟩ (hP.sub (ws' := []) [] rfl) (hD.sub (ws' := []) [] (by decide) rfl) (hK.sub (tys' := []) [] rfl) hE hS (va_free (wc := []) hD hS hA [] rfl) rfl hl.1 rfl (Nat.le_of_ble_eq_true rfl) d_Str_length_6 ⟨Nat.le_of_ble_eq_true rfl, Nat.le_of_ble_eq_true rfl⟩) (fun r hr1 => ?_)
  obtain rfl : r = iZ (0) := hr1
  refine lv_ishr hx hb d_Str_length_9 ?_
  refine zv_top (y := iZ ((txL.getD i 0 : Nat) : Int)) (sb_shr0 _) ?_
  exact er_i hx hb hr hlocks d_Str_length_10 (show iZ (((txL.getD i 0 : Nat) : Int)) = iZ (((txL.getD i 0 : Nat) : Int)) from rfl)
abbrev Qc_Pre_checkIndex_n (D : va_G) (k : Nat) (n : Nat) (A : Nat → Prop) : Array Value → State → Outcome → State → Prop := vp_Si (fun r : Int32 => r = iZ (((k : Nat) : Int)))
set_option maxHeartbeats 4000000 in
set_option maxRecDepth 100000 in
theorem c_Pre_checkIndex_n (l : Launch) (D : va_G) (Z : Nat → Nat) (hz9 : Nat) (k : Nat) (n : Nat) (hk : k < n) (hn : n < 2147483648) : Met l y_Pre_checkIndex (.code y_Pre_checkIndex b_Pre_checkIndex 3 (some .int) :: gT) ({ frames := 0, cells := 0, slots := 0, locals := 0 } : Room) (va_Pc [.int (iZ (((k : Nat) : Int))), .int (iZ (((n : Nat) : Int))), .null] (cpre D Z [] [] hz9)) (Qc_Pre_checkIndex_n D k n (va_A [] hz9)) 0 0 (fun _ => False) := by
  refine met_go (Qf := Qc_Pre_checkIndex_n D k n) (ff := fun _ _ => False) (by decide) ?_
  intro p e s m below meth c A C0 hin hsz9 hA hE hK hP hD
  obtain ⟨hx, hb, hml, hown, hts, hr, hlocks⟩ := id C0
  have hS : va_S A s.heap s.heap [] := va_S.rf
  have hl := lv_entry [.int (iZ (((k : Nat) : Int))), .int (iZ (((n : Nat) : Int))), .null] (n := 3) (Nat.le_of_ble_eq_true rfl)
  rw [lg_entry_eq]
  generalize (lg_sl [.int (iZ (((k : Nat) : Int))), .int (iZ (((n : Nat) : Int))), .null] ++ List.replicate (3 - (lg_sl [.int (iZ (((k : Nat) : Int))), .int (iZ (((n : Nat) : Int))), .null]).length) Slot.unset).toArray = ls at hl ⊢
  have hl : lv_has ls 3 [(0, .int (iZ (((k : Nat) : Int)))), (1, .int (iZ (((n : Nat) : Int)))), (2, .null)] := hl
  refine lv_iload_n hx hb d_Pre_checkIndex_0 rfl (lv_at hl 0 rfl) ?_
  refine zv_if_lt (tgt := 9) hx hb d_Pre_checkIndex_1 (by decide) (by omega) (fun c1 => absurd c1 (by omega)) (fun c1 => ?_)
  refine lv_iload_n hx hb d_Pre_checkIndex_4 rfl (lv_at hl 0 rfl) ?_
  refine lv_iload_n hx hb d_Pre_checkIndex_5 rfl (lv_at hl 1 rfl) ?_
  refine zv_icmp_lt (tgt := 16) hx hb d_Pre_checkIndex_6 (by decide) (by omega) (by omega) (fun c6 => ?_) (fun c6 => absurd (by omega) c6)
  refine lv_iload_n hx hb d_Pre_checkIndex_16 rfl (lv_at hl 0 rfl) ?_
  exact er_i hx hb hr hlocks d_Pre_checkIndex_17 (show iZ (((k : Nat) : Int)) = iZ (((k : Nat) : Int)) from rfl)
abbrev Qc_Pre_checkIndex_r (D : va_G) (k : Nat) (n : Nat) (t0 : Nat) (A : Nat → Prop) : Array Value → State → Outcome → State → Prop := vp_Si (fun r : Int32 => r = iZ (((k : Nat) : Int)))
set_option maxHeartbeats 4000000 in
set_option maxRecDepth 100000 in
theorem c_Pre_checkIndex_r (l : Launch) (D : va_G) (Z : Nat → Nat) (hz9 : Nat) (k : Nat) (n : Nat) (t0 : Nat) (hk : k < n) (hn : n < 2147483648) : Met l y_Pre_checkIndex (.code y_Pre_checkIndex b_Pre_checkIndex 3 (some .int) :: gT) ({ frames := 0, cells := 0, slots := 0, locals := 0 } : Room) (va_Pc [.int (iZ (((k : Nat) : Int))), .int (iZ (((n : Nat) : Int))), .ref t0] (cpre D Z [] [] hz9)) (Qc_Pre_checkIndex_r D k n t0 (va_A [] hz9)) 0 0 (fun _ => False) := by
  refine met_go (Qf := Qc_Pre_checkIndex_r D k n t0) (ff := fun _ _ => False) (by decide) ?_
  intro p e s m below meth c A C0 hin hsz9 hA hE hK hP hD
  obtain ⟨hx, hb, hml, hown, hts, hr, hlocks⟩ := id C0
  have hS : va_S A s.heap s.heap [] := va_S.rf
  have hl := lv_entry [.int (iZ (((k : Nat) : Int))), .int (iZ (((n : Nat) : Int))), .ref t0] (n := 3) (Nat.le_of_ble_eq_true rfl)
  rw [lg_entry_eq]
  generalize (lg_sl [.int (iZ (((k : Nat) : Int))), .int (iZ (((n : Nat) : Int))), .ref t0] ++ List.replicate (3 - (lg_sl [.int (iZ (((k : Nat) : Int))), .int (iZ (((n : Nat) : Int))), .ref t0]).length) Slot.unset).toArray = ls at hl ⊢
  have hl : lv_has ls 3 [(0, .int (iZ (((k : Nat) : Int)))), (1, .int (iZ (((n : Nat) : Int)))), (2, .ref t0)] := hl
  refine lv_iload_n hx hb d_Pre_checkIndex_0 rfl (lv_at hl 0 rfl) ?_
  refine zv_if_lt (tgt := 9) hx hb d_Pre_checkIndex_1 (by decide) (by omega) (fun c1 => absurd c1 (by omega)) (fun c1 => ?_)
  refine lv_iload_n hx hb d_Pre_checkIndex_4 rfl (lv_at hl 0 rfl) ?_
  refine lv_iload_n hx hb d_Pre_checkIndex_5 rfl (lv_at hl 1 rfl) ?_
  refine zv_icmp_lt (tgt := 16) hx hb d_Pre_checkIndex_6 (by decide) (by omega) (by omega) (fun c6 => ?_) (fun c6 => absurd (by omega) c6)
  refine lv_iload_n hx hb d_Pre_checkIndex_16 rfl (lv_at hl 0 rfl) ?_
  exact er_i hx hb hr hlocks d_Pre_checkIndex_17 (show iZ (((k : Nat) : Int)) = iZ (((k : Nat) : Int)) from rfl)
abbrev Qc_Str_checkIndex (D : va_G) (k : Nat) (n : Nat) (A : Nat → Prop) : Array Value → State → Outcome → State → Prop := va_Sv (fun _ => True)
set_option maxHeartbeats 4000000 in
set_option maxRecDepth 100000 in
theorem c_Str_checkIndex (l : Launch) (D : va_G) (Z : Nat → Nat) (hz9 : Nat) (k : Nat) (n : Nat) (hk : k < n) (hn : n < 2147483648) : Met l y_Str_checkIndex (.code y_Str_checkIndex b_Str_checkIndex 2 none :: gT) ({ frames := 1, cells := 0, slots := 0, locals := 22 } : Room) (va_Pc [.int (iZ (((k : Nat) : Int))), .int (iZ (((n : Nat) : Int)))] (cpre D Z [] [] hz9)) (Qc_Str_checkIndex D k n (va_A [] hz9)) 0 0 (fun _ => False) := by
  refine met_go (Qf := Qc_Str_checkIndex D k n) (ff := fun _ _ => False) (by decide) ?_
  intro p e s m below meth c A C0 hin hsz9 hA hE hK hP hD
  obtain ⟨hx, hb, hml, hown, hts, hr, hlocks⟩ := id C0
  have hS : va_S A s.heap s.heap [] := va_S.rf
  have hl := lv_entry [.int (iZ (((k : Nat) : Int))), .int (iZ (((n : Nat) : Int)))] (n := 2) (Nat.le_of_ble_eq_true rfl)
  rw [lg_entry_eq]
  generalize (lg_sl [.int (iZ (((k : Nat) : Int))), .int (iZ (((n : Nat) : Int)))] ++ List.replicate (2 - (lg_sl [.int (iZ (((k : Nat) : Int))), .int (iZ (((n : Nat) : Int)))]).length) Slot.unset).toArray = ls at hl ⊢
  have hl : lv_has ls 2 [(0, .int (iZ (((k : Nat) : Int)))), (1, .int (iZ (((n : Nat) : Int))))] := hl
  refine lv_iload_n hx hb d_Str_checkIndex_0 rfl (lv_at hl 0 rfl) ?_
  refine lv_iload_n hx hb d_Str_checkIndex_1 rfl (lv_at hl 1 rfl) ?_
  rcases hE.si with hz | ⟨t0, hz⟩
  · refine va_gets (C := "jdk/internal/util/Preconditions") hx hb hz hS hown (hts _ kw_184_) (fun _ h9 => h9) d_Str_checkIndex_2 ?_
    refine kg_i (kr_S (As := [.int (iZ (((k : Nat) : Int))), .int (iZ (((n : Nat) : Int))), .null]) (rest := []) C0 (c_Pre_checkIndex_n l D Z _ k n (by omega) (by omega)) q_y_Pre_checkIndex kw_191_ kw_190_ kw_189_ hd_y_Pre_checkIndex rfl rfl ⟨Nat.le_of_ble_eq_true rfl, Nat.le_of_ble_eq_true rfl⟩ (hP.sub (ws' := []) [] rfl) (hD.sub (ws' := []) [] (by decide) rfl) (hK.sub (tys' := []) [] rfl) hE hS (va_free (wc := []) hD hS hA [] rfl) rfl hl.1 rfl (Nat.le_of_ble_eq_true rfl) d_Str_checkIndex_5 ⟨Nat.le_of_ble_eq_true rfl, Nat.le_of_ble_eq_true rfl⟩) (fun r hr1 => ?_)
    obtain rfl : r = iZ (((k : Nat) : Int)) := hr1
    refine lv_pop hx hb d_Str_checkIndex_8 rfl ?_
    exact er_v hx hb hr hlocks d_Str_checkIndex_9
  · refine va_gets (C := "jdk/internal/util/Preconditions") hx hb hz hS hown (hts _ kw_184_) (fun _ h9 => h9) d_Str_checkIndex_2 ?_
    refine kg_i (kr_S (As := [.int (iZ (((k : Nat) : Int))), .int (iZ (((n : Nat) : Int))), .ref t0]) (rest := []) C0 (c_Pre_checkIndex_r l D Z _ k n t0 (by omega) (by omega)) q_y_Pre_checkIndex kw_191_ kw_190_ kw_189_ hd_y_Pre_checkIndex rfl rfl ⟨Nat.le_of_ble_eq_true rfl, Nat.le_of_ble_eq_true rfl⟩ (hP.sub (ws' := []) [] rfl) (hD.sub (ws' := []) [] (by decide) rfl) (hK.sub (tys' := []) [] rfl) hE hS (va_free (wc := []) hD hS hA [] rfl) rfl hl.1 rfl (Nat.le_of_ble_eq_true rfl) d_Str_checkIndex_5 ⟨Nat.le_of_ble_eq_true rfl, Nat.le_of_ble_eq_true rfl⟩) (fun r hr1 => ?_)
    obtain rfl : r = iZ (((k : Nat) : Int)) := hr1
    refine lv_pop hx hb d_Str_checkIndex_8 rfl ?_
    exact er_v hx hb hr hlocks d_Str_checkIndex_9
abbrev Qc_Lat_charAt (D : va_G) (i : Nat) (k : Nat) (A : Nat → Prop) : Array Value → State → Outcome → State → Prop := vp_Si (fun r : Int32 => r = iZ ((((txB.getD i []).getD k 0 : Nat) : Int)))
set_option maxHeartbeats 4000000 in
set_option maxRecDepth 100000 in
theorem c_Lat_charAt (l : Launch) (D : va_G) (Z : Nat → Nat) (hz9 : Nat) (i : Nat) (k : Nat) (hi : i < 9) (hk : k < txL.getD i 0) : Met l y_Lat_charAt (.code y_Lat_charAt b_Lat_charAt 2 (some .char) :: gT) ({ frames := 2, cells := 0, slots := 0, locals := 43 } : Room) (va_Pc [.ref (Z (2 + 2 * i)), .int (iZ (((k : Nat) : Int)))] (cpre D Z [] [] hz9)) (Qc_Lat_charAt D i k (va_A [] hz9)) 0 0 (fun _ => False) := by
  refine met_go (Qf := Qc_Lat_charAt D i k) (ff := fun _ _ => False) (by decide) ?_
  intro p e s m below meth c A C0 hin hsz9 hA hE hK hP hD
  obtain ⟨hx, hb, hml, hown, hts, hr, hlocks⟩ := id C0
  have hS : va_S A s.heap s.heap [] := va_S.rf
  have hl := lv_entry [.ref (Z (2 + 2 * i)), .int (iZ (((k : Nat) : Int)))] (n := 2) (Nat.le_of_ble_eq_true rfl)
  rw [lg_entry_eq]
  generalize (lg_sl [.ref (Z (2 + 2 * i)), .int (iZ (((k : Nat) : Int)))] ++ List.replicate (2 - (lg_sl [.ref (Z (2 + 2 * i)), .int (iZ (((k : Nat) : Int)))]).length) Slot.unset).toArray = ls at hl ⊢
  have hl : lv_has ls 2 [(0, .ref (Z (2 + 2 * i))), (1, .int (iZ (((k : Nat) : Int))))] := hl
  have hb7 := tx_byte i hi k hk
  have hl7 := tx_len i hi
  refine lv_iload_n hx hb d_Lat_charAt_0 rfl (lv_at hl 1 rfl) ?_
  refine lv_aload_n hx hb d_Lat_charAt_1 rfl (lv_at hl 0 rfl) ?_
  refine va_tlen (v := iZ ((txL.getD i 0 : Nat) : Int)) hx hb (hE.str.1 i hi).2.2.2 hS (iZ_nat _).symm d_Lat_charAt_2 ?_
  refine kg_v (kr_S (As := [.int (iZ (((k : Nat) : Int))), .int (iZ (((txL.getD i 0 : Nat) : Int)))]) (rest := []) C0 (c_Str_checkIndex l D Z _ k (txL.getD i 0) (hk) (by omega)) q_y_Str_checkIndex kw_193_ kw_192_ kw_185_ hd_y_Str_checkIndex rfl rfl ⟨Nat.le_of_ble_eq_true rfl, Nat.le_of_ble_eq_true rfl⟩ (hP.sub (ws' := []) [] rfl) (hD.sub (ws' := []) [] (by decide) rfl) (hK.sub (tys' := []) [] rfl) hE hS (va_free (wc := []) hD hS hA [] rfl) rfl hl.1 rfl (Nat.le_of_ble_eq_true rfl) d_Lat_charAt_3 ⟨Nat.le_of_ble_eq_true rfl, Nat.le_of_ble_eq_true rfl⟩) ?_
  refine lv_aload_n hx hb d_Lat_charAt_6 rfl (lv_at hl 0 rfl) ?_
  refine lv_iload_n hx hb d_Lat_charAt_7 rfl (lv_at hl 1 rfl) ?_
  refine va_tb (v := .int (iZ (((txB.getD i []).getD k 0 : Nat) : Int))) hx hb (hE.str.1 i hi).2.2.2 hS (iZ_in (by omega) (by omega)) (by rw [iZ_cn rfl (by omega)]; exact congrArg Value.int hb7.1) d_Lat_charAt_8 ?_
  refine lv_sipush (v := iZ (255)) hx hb d_Lat_charAt_9 (by decide) ?_
  refine lv_iand hx hb d_Lat_charAt_12 ?_
  refine zv_top (y := iZ (((txB.getD i []).getD k 0 : Nat) : Int)) (and_255 _ hb7.2) ?_
  refine lv_i2c (v := (iZ ((((txB.getD i []).getD k 0 : Nat) : Int)))) hx hb d_Lat_charAt_13 (char_ok _ hb7.2) ?_
  exact er_z hx hb hr hlocks (char_nar _ hb7.2) d_Lat_charAt_14 (show iZ ((((txB.getD i []).getD k 0 : Nat) : Int)) = iZ ((((txB.getD i []).getD k 0 : Nat) : Int)) from rfl)
abbrev Qc_Str_charAt (D : va_G) (i : Nat) (k : Nat) (A : Nat → Prop) : Array Value → State → Outcome → State → Prop := vp_Si (fun r : Int32 => r = iZ ((((txB.getD i []).getD k 0 : Nat) : Int)))
set_option maxHeartbeats 4000000 in
set_option maxRecDepth 100000 in
theorem c_Str_charAt (l : Launch) (D : va_G) (Z : Nat → Nat) (hz9 : Nat) (i : Nat) (k : Nat) (hi : i < 9) (hk : k < txL.getD i 0) : Met l y_Str_charAt (.code y_Str_charAt b_Str_charAt 2 (some .char) :: gT) ({ frames := 3, cells := 0, slots := 0, locals := 64 } : Room) (va_Pc [.ref (Z (1 + 2 * i)), .int (iZ (((k : Nat) : Int)))] (cpre D Z [] [] hz9)) (Qc_Str_charAt D i k (va_A [] hz9)) 0 0 (fun _ => False) := by
  refine met_go (Qf := Qc_Str_charAt D i k) (ff := fun _ _ => False) (by decide) ?_
  intro p e s m below meth c A C0 hin hsz9 hA hE hK hP hD
  obtain ⟨hx, hb, hml, hown, hts, hr, hlocks⟩ := id C0
  have hS : va_S A s.heap s.heap [] := va_S.rf
  have hl := lv_entry [.ref (Z (1 + 2 * i)), .int (iZ (((k : Nat) : Int)))] (n := 2) (Nat.le_of_ble_eq_true rfl)
  rw [lg_entry_eq]
  generalize (lg_sl [.ref (Z (1 + 2 * i)), .int (iZ (((k : Nat) : Int)))] ++ List.replicate (2 - (lg_sl [.ref (Z (1 + 2 * i)), .int (iZ (((k : Nat) : Int)))]).length) Slot.unset).toArray = ls at hl ⊢
  have hl : lv_has ls 2 [(0, .ref (Z (1 + 2 * i))), (1, .int (iZ (((k : Nat) : Int))))] := hl
  have hb7 := tx_byte i hi k hk
  refine lv_aload_n hx hb d_Str_charAt_0 rfl (lv_at hl 0 rfl) ?_
  refine kg_i (kr_VK (i := i) (by assumption) (As := []) (rest := []) C0 (c_Str_isLatin1 l D Z _ i (by assumption)) q_y_Str_isLatin1 kw_194_ kw_195_ kw_196_ kw_185_ hd_y_Str_isLatin1 rfl rfl ⟨Nat.le_of_ble_eq_true rfl, Nat.le_of_ble_eq_true rfl⟩ (hP.sub (ws' := []) [] rfl) (hD.sub (ws' := []) [] (by decide) rfl) (hK.sub (tys' := []) [] rfl) hE hS (va_free (wc := []) hD hS hA [] rfl) rfl hl.1 rfl (Nat.le_of_ble_eq_true rfl) d_Str_charAt_1 ⟨Nat.le_of_ble_eq_true rfl, Nat.le_of_ble_eq_true rfl⟩) (fun r hr1 => ?_)
  obtain rfl : r = iZ (1) := hr1
  refine zv_if_eq (tgt := 16) hx hb d_Str_charAt_4 (by decide) (by omega) (fun c4 => absurd c4 (by decide)) (fun c4 => ?_)
  refine lv_aload_n hx hb d_Str_charAt_7 rfl (lv_at hl 0 rfl) ?_
  refine vk_getf (o := "java/lang/String") (n := "value") (d := "[B") (v := .ref (Z (2 + 2 * i))) hx hb (hE.str.1 i hi).2.2.1 hS hown (hts _ kw_183_) (fun _ h9 => h9) d_Str_charAt_8 ?_
  refine lv_iload_n hx hb d_Str_charAt_11 rfl (lv_at hl 1 rfl) ?_
  refine kg_i (kr_S (As := [.ref (Z (2 + 2 * i)), .int (iZ (((k : Nat) : Int)))]) (rest := []) C0 (c_Lat_charAt l D Z _ i k (by assumption) (by assumption)) q_y_Lat_charAt kw_199_ kw_198_ kw_197_ hd_y_Lat_charAt rfl rfl ⟨Nat.le_of_ble_eq_true rfl, Nat.le_of_ble_eq_true rfl⟩ (hP.sub (ws' := []) [] rfl) (hD.sub (ws' := []) [] (by decide) rfl) (hK.sub (tys' := []) [] rfl) hE hS (va_free (wc := []) hD hS hA [] rfl) rfl hl.1 rfl (Nat.le_of_ble_eq_true rfl) d_Str_charAt_12 ⟨Nat.le_of_ble_eq_true rfl, Nat.le_of_ble_eq_true rfl⟩) (fun r hr1 => ?_)
  obtain rfl : r = iZ ((((txB.getD i []).getD k 0 : Nat) : Int)) := hr1
  exact er_z hx hb hr hlocks (char_nar _ hb7.2) d_Str_charAt_15 (show iZ ((((txB.getD i []).getD k 0 : Nat) : Int)) = iZ ((((txB.getD i []).getD k 0 : Nat) : Int)) from rfl)
abbrev Qc_Sheet_putText (D : va_G) (h0 : Nat) (qb : Nat) (cAb : ClassId) (g : Nat → Int32) (t : List Nat) (i : Nat) (A : Nat → Prop) : Array Value → State → Outcome → State → Prop := va_Qv (fun u : Nat → Int32 => PaperIs u (t ++ txB.getD i [])) (fun (u : Nat → Int32) t9 => cpost D A [(h0, .inr (1, [.ref qb, .int (iZ ((((t ++ txB.getD i []).length : Nat) : Int)))])), (qb, .inl (cAb, 1440, .inl u))] [(cAb, .byte)] t9) A
set_option maxHeartbeats 4000000 in
set_option maxRecDepth 100000 in
theorem lp_Sheet_putText_2 {p : Program} {l : Launch} {e : Env} {s : State} {m : MethodId} {args : Array Value} {below : List Frame} {meth : Method} {c : Code} {A : Nat → Prop} {D : va_G} {Z : Nat → Nat} (h0 : Nat) (qb : Nat) (cAb : ClassId) (g : Nat → Int32) (t : List Nat) (i : Nat) (hT : PaperIs g t) (hi : i < 9) (hl8 : t.length + 36 ≤ 1440) (C0 : cxA p s m args meth c b_Sheet_putText 3 R_Sheet none) (hA : ∀ q : Nat, s.heap.size ≤ q → A q) (hE : Ev Z A s s.heap) : ∀ (N : Nat) (k : Nat) (g2 : Nat → Int32) (H : Heap) (locs : List Loc) (ls : Array Slot), txL.getD i 0 - k < N → (k ≤ txL.getD i 0) → (PaperIs g2 (t ++ (txB.getD i []).take k)) → va_K D classes [(cAb, .byte)] s → va_P D classes [(h0, .inr (1, [.ref qb, .int (iZ ((((t ++ (txB.getD i []).take k).length : Nat) : Int)))])), (qb, .inl (cAb, 1440, .inl g2))] H → va_D A [(h0, .inr (1, [.ref qb, .int (iZ ((((t ++ (txB.getD i []).take k).length : Nat) : Int)))])), (qb, .inl (cAb, 1440, .inl g2))] → va_S A s.heap H locs → lv_has ls 3 [(0, .ref h0), (1, .ref (Z (1 + 2 * i))), (2, .int (iZ (((k : Nat) : Int))))] → W p l e ({ frames := 4, cells := 0, slots := 0, locals := 85 } : Room) s m args below meth c H locs 0 0 (MQ below (Qc_Sheet_putText D h0 qb cAb g t i A) args s 0 0 A) (F0 m 2 ls []) := by
  obtain ⟨hx, hb, hml, hown, hts, hr, hlocks⟩ := id C0
  intro N
  induction N with
  | zero => intro k g2 H locs ls hN; exact absurd hN (Nat.not_lt_zero _)
  | succ N ih =>
    intro k g2 H locs ls hN hk hg hK hP hD hS hl
    have hl7 := tx_len i hi
    refine lv_iload_n hx hb d_Sheet_putText_2 rfl (lv_at hl 2 rfl) ?_
    refine lv_aload_n hx hb d_Sheet_putText_3 rfl (lv_at hl 1 rfl) ?_
    refine kg_i (kr_VK (i := i) (by assumption) (As := []) (rest := [.int (iZ (((k : Nat) : Int)))]) C0 (c_Str_length l D Z _ i (by assumption)) q_y_Str_length kw_200_ kw_201_ kw_202_ kw_185_ hd_y_Str_length rfl rfl ⟨Nat.le_of_ble_eq_true rfl, Nat.le_of_ble_eq_true rfl⟩ (hP.sub (ws' := []) [] rfl) (hD.sub (ws' := []) [] (by decide) rfl) (hK.sub (tys' := []) [] rfl) hE hS (va_free (wc := []) hD hS hA [] rfl) rfl hl.1 rfl (Nat.le_of_ble_eq_true rfl) d_Sheet_putText_4 ⟨Nat.le_of_ble_eq_true rfl, Nat.le_of_ble_eq_true rfl⟩) (fun r hr1 => ?_)
    obtain rfl : r = iZ (((txL.getD i 0 : Nat) : Int)) := hr1
    refine zv_icmp_ge (tgt := 25) hx hb d_Sheet_putText_7 (by decide) (by omega) (by omega) (fun c7 => ?_) (fun c7 => ?_)
    · have hTx : t ++ txB.getD i [] = t ++ (txB.getD i []).take k := by rw [List.take_of_length_le (by omega)]
      have hP : va_P D classes [(h0, .inr (1, [.ref qb, .int (iZ ((((t ++ txB.getD i []).length : Nat) : Int)))])), (qb, .inl (cAb, 1440, .inl g2))] H := by rw [hTx]; exact hP
      have hD : va_D A [(h0, .inr (1, [.ref qb, .int (iZ ((((t ++ txB.getD i []).length : Nat) : Int)))])), (qb, .inl (cAb, 1440, .inl g2))] := by rw [hTx]; exact hD
      exact ew_v g2 hx hb hr hlocks d_Sheet_putText_25 (show PaperIs g2 (t ++ txB.getD i []) from by rw [hTx]; exact hg) (hP.sub (ws' := [(h0, .inr (1, [.ref qb, .int (iZ ((((t ++ txB.getD i []).length : Nat) : Int)))])), (qb, .inl (cAb, 1440, .inl g2))]) [0, 1] rfl) (hD.sub (ws' := [(h0, .inr (1, [.ref qb, .int (iZ ((((t ++ txB.getD i []).length : Nat) : Int)))])), (qb, .inl (cAb, 1440, .inl g2))]) [0, 1] (by decide) rfl) (hK.sub (tys' := [(cAb, .byte)]) [0] rfl) hS (Nat.le_of_ble_eq_true rfl) (Nat.le_of_ble_eq_true rfl)
    · refine lv_aload_n hx hb d_Sheet_putText_10 rfl (lv_at hl 0 rfl) ?_
      refine lv_aload_n hx hb d_Sheet_putText_11 rfl (lv_at hl 1 rfl) ?_
      refine lv_iload_n hx hb d_Sheet_putText_12 rfl (lv_at hl 2 rfl) ?_
      refine kg_i (kr_VK (i := i) (by assumption) (As := [.int (iZ (((k : Nat) : Int)))]) (rest := [.ref h0]) C0 (c_Str_charAt l D Z _ i k (by assumption) (by omega)) q_y_Str_charAt kw_203_ kw_204_ kw_205_ kw_185_ hd_y_Str_charAt rfl rfl ⟨Nat.le_of_ble_eq_true rfl, Nat.le_of_ble_eq_true rfl⟩ (hP.sub (ws' := []) [] rfl) (hD.sub (ws' := []) [] (by decide) rfl) (hK.sub (tys' := []) [] rfl) hE hS (va_free (wc := []) hD hS hA [] rfl) rfl hl.1 rfl (Nat.le_of_ble_eq_true rfl) d_Sheet_putText_13 ⟨Nat.le_of_ble_eq_true rfl, Nat.le_of_ble_eq_true rfl⟩) (fun r hr1 => ?_)
      obtain rfl : r = iZ ((((txB.getD i []).getD k 0 : Nat) : Int)) := hr1
      refine kw_v (wr := []) (tr := []) (kr_V (C0 := R_Sheet) (ci := 1) (i0 := 0) (As := [.int (iZ ((((txB.getD i []).getD k 0 : Nat) : Int)))]) (rest := []) C0 (c_Sheet_put l D Z _ h0 qb cAb g2 (t ++ (txB.getD i []).take k) ((txB.getD i []).getD k 0) (by assumption) ((tx_byte i hi k (by omega)).2) (text_room hl8 (by omega))) q_y_Sheet_put kw_90_ kw_91_ kw_92_ kw_89_ hd_y_Sheet_put rfl rfl ⟨Nat.le_of_ble_eq_true rfl, Nat.le_of_ble_eq_true rfl⟩ (hP.sub (ws' := [(h0, .inr (1, [.ref qb, .int (iZ (((((t ++ (txB.getD i []).take k)).length : Nat) : Int)))])), (qb, .inl (cAb, 1440, .inl g2))]) [0, 1] rfl) (hD.sub (ws' := [(h0, .inr (1, [.ref qb, .int (iZ (((((t ++ (txB.getD i []).take k)).length : Nat) : Int)))])), (qb, .inl (cAb, 1440, .inl g2))]) [0, 1] (by decide) rfl) (hK.sub (tys' := [(cAb, .byte)]) [0] rfl) hE hS (va_free (wc := [(h0, .inr (1, [.ref qb, .int (iZ (((((t ++ (txB.getD i []).take k)).length : Nat) : Int)))])), (qb, .inl (cAb, 1440, .inl g2))]) hD hS hA [0, 1] rfl) rfl rfl rfl hl.1 rfl (Nat.le_of_ble_eq_true rfl) d_Sheet_putText_16 ⟨Nat.le_of_ble_eq_true rfl, Nat.le_of_ble_eq_true rfl⟩) hP hD hK hS hA [0, 1] [] [] rfl rfl (by decide) (by decide) rfl (fun g16 H locs hpost hP hD hK hS => ?_)
      have hw16 : PaperIs g16 ((t ++ (txB.getD i []).take k) ++ [((txB.getD i []).getD k 0)]) := hpost
      have hP : va_P D classes [(h0, .inr (1, [.ref qb, .int (iZ (((((t ++ (txB.getD i []).take k) ++ [((txB.getD i []).getD k 0)]).length : Nat) : Int)))])), (qb, .inl (cAb, 1440, .inl g16))] H := hP
      have hD : va_D A [(h0, .inr (1, [.ref qb, .int (iZ (((((t ++ (txB.getD i []).take k) ++ [((txB.getD i []).getD k 0)]).length : Nat) : Int)))])), (qb, .inl (cAb, 1440, .inl g16))] := hD
      have hK : va_K D classes [(cAb, .byte)] s := hK
      refine lv_iinc (v := iZ (((k + 1 : Nat) : Int))) (lv' := [(2, .int (iZ (((k + 1 : Nat) : Int)))), (0, .ref h0), (1, .ref (Z (1 + 2 * i)))]) hx hb d_Sheet_putText_19 hl (k := 2) rfl ((iZ_add _ _).trans (congrArg iZ (by omega))) (by decide) rfl (fun ls hl => ?_)
      refine lv_goto (tgt := 2) hx hb d_Sheet_putText_22 (by decide) ?_
      have ht0 : t ++ (txB.getD i []).take (k + 1) = t ++ (txB.getD i []).take k ++ [(txB.getD i []).getD k 0] := by rw [take_more (by omega), List.append_assoc]
      have hP : va_P D classes [(h0, .inr (1, [.ref qb, .int (iZ ((((t ++ (txB.getD i []).take (k + 1)).length : Nat) : Int)))])), (qb, .inl (cAb, 1440, .inl g16))] H := by rw [ht0]; exact hP
      have hD : va_D A [(h0, .inr (1, [.ref qb, .int (iZ ((((t ++ (txB.getD i []).take (k + 1)).length : Nat) : Int)))])), (qb, .inl (cAb, 1440, .inl g16))] := by rw [ht0]; exact hD
      exact ih (k + 1) g16 _ _ _ (by omega) (by omega) (by rw [ht0]; exact hw16) (hK.sub [0] rfl) (hP.sub [0, 1] rfl) (hD.sub [0, 1] (by decide) rfl) hS (lv_sub hl [1, 2, 0] rfl)
set_option maxHeartbeats 4000000 in
set_option maxRecDepth 100000 in
theorem c_Sheet_putText (l : Launch) (D : va_G) (Z : Nat → Nat) (hz9 : Nat) (h0 : Nat) (qb : Nat) (cAb : ClassId) (g : Nat → Int32) (t : List Nat) (i : Nat) (hT : PaperIs g t) (hi : i < 9) (hl8 : t.length + 36 ≤ 1440) : Met l y_Sheet_putText (.code y_Sheet_putText b_Sheet_putText 3 none :: gT) ({ frames := 4, cells := 0, slots := 0, locals := 85 } : Room) (va_Pc [.ref h0, .ref (Z (1 + 2 * i))] (cpre D Z [(h0, .inr (1, [.ref qb, .int (iZ ((((t).length : Nat) : Int)))])), (qb, .inl (cAb, 1440, .inl g))] [(cAb, .byte)] hz9)) (Qc_Sheet_putText D h0 qb cAb g t i (va_A [(h0, .inr (1, [.ref qb, .int (iZ ((((t).length : Nat) : Int)))])), (qb, .inl (cAb, 1440, .inl g))] hz9)) 0 0 (va_A [(h0, .inr (1, [.ref qb, .int (iZ ((((t).length : Nat) : Int)))])), (qb, .inl (cAb, 1440, .inl g))] hz9) := by
  refine met_go (Qf := Qc_Sheet_putText D h0 qb cAb g t i) (ff := fun A => A) (by decide) ?_
  intro p e s m below meth c A C0 hin hsz9 hA hE hK hP hD
  obtain ⟨hx, hb, hml, hown, hts, hr, hlocks⟩ := id C0
  have hS : va_S A s.heap s.heap [] := va_S.rf
  have hl := lv_entry [.ref h0, .ref (Z (1 + 2 * i))] (n := 3) (Nat.le_of_ble_eq_true rfl)
  rw [lg_entry_eq]
  generalize (lg_sl [.ref h0, .ref (Z (1 + 2 * i))] ++ List.replicate (3 - (lg_sl [.ref h0, .ref (Z (1 + 2 * i))]).length) Slot.unset).toArray = ls at hl ⊢
  have hl : lv_has ls 3 [(0, .ref h0), (1, .ref (Z (1 + 2 * i)))] := hl
  refine lv_iconst (v := iZ (0)) hx hb d_Sheet_putText_0 rfl ?_
  refine lv_istore_n (lv' := [(2, .int (iZ (0))), (0, .ref h0), (1, .ref (Z (1 + 2 * i)))]) hx hb d_Sheet_putText_1 rfl hl (by decide) rfl (fun ls hl => ?_)
  have ht0 : t ++ (txB.getD i []).take 0 = t := by rw [List.take_zero, List.append_nil]
  have hP : va_P D classes [(h0, .inr (1, [.ref qb, .int (iZ ((((t ++ (txB.getD i []).take 0).length : Nat) : Int)))])), (qb, .inl (cAb, 1440, .inl g))] s.heap := by rw [ht0]; exact hP
  have hD : va_D A [(h0, .inr (1, [.ref qb, .int (iZ ((((t ++ (txB.getD i []).take 0).length : Nat) : Int)))])), (qb, .inl (cAb, 1440, .inl g))] := by rw [ht0]; exact hD
  exact lp_Sheet_putText_2 h0 qb cAb g t i hT hi hl8 C0 hA hE (txL.getD i 0 - 0 + 1) 0 g _ _ _ (Nat.lt_succ_self _) (by omega) (by rw [ht0]; exact hT) (hK.sub [0] rfl) (hP.sub [0, 1] rfl) (hD.sub [0, 1] (by decide) rfl) hS (lv_sub hl [1, 2, 0] rfl)
