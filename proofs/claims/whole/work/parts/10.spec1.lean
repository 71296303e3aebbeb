theorem kw_0_ : Cond.initialized "java/lang/Math" ∈ gT := gT_in 15 (by decide +kernel) (by decide +kernel)
theorem kw_1_ : Cond.constantLong R_FW 110 (9218868437227405312) ∈ gT := gT_in 150 (by decide +kernel) (by decide +kernel)
theorem kw_2_ : Cond.constantLong R_FW 118 (2139095040) ∈ gT := gT_in 158 (by decide +kernel) (by decide +kernel)
theorem kw_3_ : Cond.initialized R_FW ∈ gT := gT_in 1 (by decide +kernel) (by decide +kernel)
theorem kw_4_ : Cond.static y_FW_signBit ∈ gT := gT_in 148 (by decide +kernel) (by decide +kernel)
theorem kw_5_ : Cond.methodLink R_FW 104 y_FW_signBit ∈ gT := gT_in 147 (by decide +kernel) (by decide +kernel)
theorem kw_6_ : Cond.static y_FW_sizeBits ∈ gT := gT_in 145 (by decide +kernel) (by decide +kernel)
theorem kw_7_ : Cond.methodLink R_FW 97 y_FW_sizeBits ∈ gT := gT_in 144 (by decide +kernel) (by decide +kernel)
theorem kw_8_ : Cond.static y_FW_infinity ∈ gT := gT_in 266 (by decide +kernel) (by decide +kernel)
theorem kw_9_ : Cond.methodLink R_FW 100 y_FW_infinity ∈ gT := gT_in 265 (by decide +kernel) (by decide +kernel)
theorem kw_10_ : Cond.static y_FW_fractionBits ∈ gT := gT_in 163 (by decide +kernel) (by decide +kernel)
theorem kw_11_ : Cond.methodLink R_FW 139 y_FW_fractionBits ∈ gT := gT_in 162 (by decide +kernel) (by decide +kernel)
theorem kw_12_ : Cond.static y_FW_exponent ∈ gT := gT_in 160 (by decide +kernel) (by decide +kernel)
theorem kw_13_ : Cond.methodLink R_FW 143 y_FW_exponent ∈ gT := gT_in 159 (by decide +kernel) (by decide +kernel)
theorem kw_14_ : Cond.static y_FW_fraction ∈ gT := gT_in 176 (by decide +kernel) (by decide +kernel)
theorem kw_15_ : Cond.methodLink R_FW 146 y_FW_fraction ∈ gT := gT_in 175 (by decide +kernel) (by decide +kernel)
theorem kw_16_ : Cond.methodLink R_FW 149 Lib.Math.max.name ∈ gT := gT_in 342 (by decide +kernel) (by decide +kernel)
theorem kw_17_ : Cond.static Lib.Math.max.name ∈ gT := gT_in 343 (by decide +kernel) (by decide +kernel)
set_option maxRecDepth 100000 in
theorem q_y_FW_signBit : Cond.code y_FW_signBit b_FW_signBit 1 (some .long) ∈ gT := gT_in 149 rfl rfl
set_option maxRecDepth 100000 in
theorem q_y_FW_sizeBits : Cond.code y_FW_sizeBits b_FW_sizeBits 3 (some .long) ∈ gT := gT_in 146 rfl rfl
set_option maxRecDepth 100000 in
theorem q_y_FW_infinity : Cond.code y_FW_infinity b_FW_infinity 1 (some .long) ∈ gT := gT_in 267 rfl rfl
set_option maxRecDepth 100000 in
theorem q_y_FW_fractionBits : Cond.code y_FW_fractionBits b_FW_fractionBits 1 (some .int) ∈ gT := gT_in 164 rfl rfl
set_option maxRecDepth 100000 in
theorem q_y_FW_exponent : Cond.code y_FW_exponent b_FW_exponent 3 (some .int) ∈ gT := gT_in 161 rfl rfl
set_option maxRecDepth 100000 in
theorem q_y_FW_fraction : Cond.code y_FW_fraction b_FW_fraction 3 (some .long) ∈ gT := gT_in 177 rfl rfl
theorem q_Lib_Math_max_name : Cond.code Lib.Math.max.name Lib.Math.max.code 2 (some .int) ∈ gT := gT_in 344 (by decide +kernel) rfl
theorem hd_y_FW_signBit : y_FW_signBit.cls ≠ "java/lang/invoke/MethodHandle" ∧ y_FW_signBit.cls ≠ "java/lang/invoke/VarHandle" ∧ (parseMethodDescriptor y_FW_signBit.desc).map (fun d => d.parameters.length) = some 1 := by decide +kernel
theorem hd_y_FW_sizeBits : y_FW_sizeBits.cls ≠ "java/lang/invoke/MethodHandle" ∧ y_FW_sizeBits.cls ≠ "java/lang/invoke/VarHandle" ∧ (parseMethodDescriptor y_FW_sizeBits.desc).map (fun d => d.parameters.length) = some 2 := by decide +kernel
theorem hd_y_FW_infinity : y_FW_infinity.cls ≠ "java/lang/invoke/MethodHandle" ∧ y_FW_infinity.cls ≠ "java/lang/invoke/VarHandle" ∧ (parseMethodDescriptor y_FW_infinity.desc).map (fun d => d.parameters.length) = some 1 := by decide +kernel
theorem hd_y_FW_fractionBits : y_FW_fractionBits.cls ≠ "java/lang/invoke/MethodHandle" ∧ y_FW_fractionBits.cls ≠ "java/lang/invoke/VarHandle" ∧ (parseMethodDescriptor y_FW_fractionBits.desc).map (fun d => d.parameters.length) = some 1 := by decide +kernel
theorem hd_y_FW_exponent : y_FW_exponent.cls ≠ "java/lang/invoke/MethodHandle" ∧ y_FW_exponent.cls ≠ "java/lang/invoke/VarHandle" ∧ (parseMethodDescriptor y_FW_exponent.desc).map (fun d => d.parameters.length) = some 2 := by decide +kernel
theorem hd_y_FW_fraction : y_FW_fraction.cls ≠ "java/lang/invoke/MethodHandle" ∧ y_FW_fraction.cls ≠ "java/lang/invoke/VarHandle" ∧ (parseMethodDescriptor y_FW_fraction.desc).map (fun d => d.parameters.length) = some 2 := by decide +kernel
theorem d_FW_fractionBits_0 : decode b_FW_fractionBits 0 = .ok (.iload_n 0, 1) := by decide +kernel
theorem d_FW_fractionBits_1 : decode b_FW_fractionBits 1 = .ok (.ifCond .eq 8, 3) := by decide +kernel
theorem d_FW_fractionBits_4 : decode b_FW_fractionBits 4 = .ok (.bipush 23, 2) := by decide +kernel
theorem d_FW_fractionBits_6 : decode b_FW_fractionBits 6 = .ok (.goto 5, 3) := by decide +kernel
theorem d_FW_fractionBits_9 : decode b_FW_fractionBits 9 = .ok (.bipush 52, 2) := by decide +kernel
theorem d_FW_fractionBits_11 : decode b_FW_fractionBits 11 = .ok (.ireturn, 1) := by decide +kernel
theorem d_FW_infinity_0 : decode b_FW_infinity 0 = .ok (.iload_n 0, 1) := by decide +kernel
theorem d_FW_infinity_1 : decode b_FW_infinity 1 = .ok (.ifCond .eq 9, 3) := by decide +kernel
theorem d_FW_infinity_4 : decode b_FW_infinity 4 = .ok (.ldc2_w 118, 3) := by decide +kernel
theorem d_FW_infinity_7 : decode b_FW_infinity 7 = .ok (.goto 6, 3) := by decide +kernel
theorem d_FW_infinity_10 : decode b_FW_infinity 10 = .ok (.ldc2_w 110, 3) := by decide +kernel
theorem d_FW_infinity_13 : decode b_FW_infinity 13 = .ok (.lreturn, 1) := by decide +kernel
theorem d_FW_signBit_0 : decode b_FW_signBit 0 = .ok (.lconst 1, 1) := by decide +kernel
theorem d_FW_signBit_1 : decode b_FW_signBit 1 = .ok (.iload_n 0, 1) := by decide +kernel
theorem d_FW_signBit_2 : decode b_FW_signBit 2 = .ok (.ifCond .eq 8, 3) := by decide +kernel
theorem d_FW_signBit_5 : decode b_FW_signBit 5 = .ok (.bipush 31, 2) := by decide +kernel
theorem d_FW_signBit_7 : decode b_FW_signBit 7 = .ok (.goto 5, 3) := by decide +kernel
theorem d_FW_signBit_10 : decode b_FW_signBit 10 = .ok (.bipush 63, 2) := by decide +kernel
theorem d_FW_signBit_12 : decode b_FW_signBit 12 = .ok (.lshl, 1) := by decide +kernel
theorem d_FW_signBit_13 : decode b_FW_signBit 13 = .ok (.lreturn, 1) := by decide +kernel
theorem d_FW_isNegative_0 : decode b_FW_isNegative 0 = .ok (.lload_n 0, 1) := by decide +kernel
theorem d_FW_isNegative_1 : decode b_FW_isNegative 1 = .ok (.iload_n 2, 1) := by decide +kernel
theorem d_FW_isNegative_2 : decode b_FW_isNegative 2 = .ok (.invokestatic 104, 3) := by decide +kernel
theorem d_FW_isNegative_5 : decode b_FW_isNegative 5 = .ok (.land, 1) := by decide +kernel
theorem d_FW_isNegative_6 : decode b_FW_isNegative 6 = .ok (.lconst 0, 1) := by decide +kernel
theorem d_FW_isNegative_7 : decode b_FW_isNegative 7 = .ok (.lcmp, 1) := by decide +kernel
theorem d_FW_isNegative_8 : decode b_FW_isNegative 8 = .ok (.ifCond .eq 7, 3) := by decide +kernel
theorem d_FW_isNegative_11 : decode b_FW_isNegative 11 = .ok (.iconst 1, 1) := by decide +kernel
theorem d_FW_isNegative_12 : decode b_FW_isNegative 12 = .ok (.goto 4, 3) := by decide +kernel
theorem d_FW_isNegative_15 : decode b_FW_isNegative 15 = .ok (.iconst 0, 1) := by decide +kernel
theorem d_FW_isNegative_16 : decode b_FW_isNegative 16 = .ok (.ireturn, 1) := by decide +kernel
theorem d_FW_sizeBits_0 : decode b_FW_sizeBits 0 = .ok (.lload_n 0, 1) := by decide +kernel
theorem d_FW_sizeBits_1 : decode b_FW_sizeBits 1 = .ok (.iload_n 2, 1) := by decide +kernel
theorem d_FW_sizeBits_2 : decode b_FW_sizeBits 2 = .ok (.invokestatic 104, 3) := by decide +kernel
theorem d_FW_sizeBits_5 : decode b_FW_sizeBits 5 = .ok (.lconst 1, 1) := by decide +kernel
theorem d_FW_sizeBits_6 : decode b_FW_sizeBits 6 = .ok (.lsub, 1) := by decide +kernel
theorem d_FW_sizeBits_7 : decode b_FW_sizeBits 7 = .ok (.land, 1) := by decide +kernel
theorem d_FW_sizeBits_8 : decode b_FW_sizeBits 8 = .ok (.lreturn, 1) := by decide +kernel
theorem d_FW_isFinite_0 : decode b_FW_isFinite 0 = .ok (.lload_n 0, 1) := by decide +kernel
theorem d_FW_isFinite_1 : decode b_FW_isFinite 1 = .ok (.iload_n 2, 1) := by decide +kernel
theorem d_FW_isFinite_2 : decode b_FW_isFinite 2 = .ok (.invokestatic 97, 3) := by decide +kernel
theorem d_FW_isFinite_5 : decode b_FW_isFinite 5 = .ok (.iload_n 2, 1) := by decide +kernel
theorem d_FW_isFinite_6 : decode b_FW_isFinite 6 = .ok (.invokestatic 100, 3) := by decide +kernel
theorem d_FW_isFinite_9 : decode b_FW_isFinite 9 = .ok (.lcmp, 1) := by decide +kernel
theorem d_FW_isFinite_10 : decode b_FW_isFinite 10 = .ok (.ifCond .ge 7, 3) := by decide +kernel
theorem d_FW_isFinite_13 : decode b_FW_isFinite 13 = .ok (.iconst 1, 1) := by decide +kernel
theorem d_FW_isFinite_14 : decode b_FW_isFinite 14 = .ok (.goto 4, 3) := by decide +kernel
theorem d_FW_isFinite_17 : decode b_FW_isFinite 17 = .ok (.iconst 0, 1) := by decide +kernel
theorem d_FW_isFinite_18 : decode b_FW_isFinite 18 = .ok (.ireturn, 1) := by decide +kernel
theorem d_FW_exponent_0 : decode b_FW_exponent 0 = .ok (.lload_n 0, 1) := by decide +kernel
theorem d_FW_exponent_1 : decode b_FW_exponent 1 = .ok (.iload_n 2, 1) := by decide +kernel
theorem d_FW_exponent_2 : decode b_FW_exponent 2 = .ok (.invokestatic 97, 3) := by decide +kernel
theorem d_FW_exponent_5 : decode b_FW_exponent 5 = .ok (.iload_n 2, 1) := by decide +kernel
theorem d_FW_exponent_6 : decode b_FW_exponent 6 = .ok (.invokestatic 139, 3) := by decide +kernel
theorem d_FW_exponent_9 : decode b_FW_exponent 9 = .ok (.lushr, 1) := by decide +kernel
theorem d_FW_exponent_10 : decode b_FW_exponent 10 = .ok (.l2i, 1) := by decide +kernel
theorem d_FW_exponent_11 : decode b_FW_exponent 11 = .ok (.ireturn, 1) := by decide +kernel
theorem d_FW_fraction_0 : decode b_FW_fraction 0 = .ok (.lload_n 0, 1) := by decide +kernel
theorem d_FW_fraction_1 : decode b_FW_fraction 1 = .ok (.lconst 1, 1) := by decide +kernel
theorem d_FW_fraction_2 : decode b_FW_fraction 2 = .ok (.iload_n 2, 1) := by decide +kernel
theorem d_FW_fraction_3 : decode b_FW_fraction 3 = .ok (.invokestatic 139, 3) := by decide +kernel
theorem d_FW_fraction_6 : decode b_FW_fraction 6 = .ok (.lshl, 1) := by decide +kernel
theorem d_FW_fraction_7 : decode b_FW_fraction 7 = .ok (.lconst 1, 1) := by decide +kernel
theorem d_FW_fraction_8 : decode b_FW_fraction 8 = .ok (.lsub, 1) := by decide +kernel
theorem d_FW_fraction_9 : decode b_FW_fraction 9 = .ok (.land, 1) := by decide +kernel
theorem d_FW_fraction_10 : decode b_FW_fraction 10 = .ok (.lreturn, 1) := by decide +kernel
theorem d_FW_significand_0 : decode b_FW_significand 0 = .ok (.lload_n 0, 1) := by decide +kernel
theorem d_FW_significand_1 : decode b_FW_significand 1 = .ok (.iload_n 2, 1) := by decide +kernel
theorem d_FW_significand_2 : decode b_FW_significand 2 = .ok (.invokestatic 143, 3) := by decide +kernel
theorem d_FW_significand_5 : decode b_FW_significand 5 = .ok (.ifCond .ne 7, 3) := by decide +kernel
theorem d_FW_significand_8 : decode b_FW_significand 8 = .ok (.lconst 0, 1) := by decide +kernel
theorem d_FW_significand_9 : decode b_FW_significand 9 = .ok (.goto 9, 3) := by decide +kernel
theorem d_FW_significand_12 : decode b_FW_significand 12 = .ok (.lconst 1, 1) := by decide +kernel
theorem d_FW_significand_13 : decode b_FW_significand 13 = .ok (.iload_n 2, 1) := by decide +kernel
theorem d_FW_significand_14 : decode b_FW_significand 14 = .ok (.invokestatic 139, 3) := by decide +kernel
theorem d_FW_significand_17 : decode b_FW_significand 17 = .ok (.lshl, 1) := by decide +kernel
theorem d_FW_significand_18 : decode b_FW_significand 18 = .ok (.lstore_n 3, 1) := by decide +kernel
theorem d_FW_significand_19 : decode b_FW_significand 19 = .ok (.lload_n 3, 1) := by decide +kernel
theorem d_FW_significand_20 : decode b_FW_significand 20 = .ok (.lload_n 0, 1) := by decide +kernel
theorem d_FW_significand_21 : decode b_FW_significand 21 = .ok (.iload_n 2, 1) := by decide +kernel
theorem d_FW_significand_22 : decode b_FW_significand 22 = .ok (.invokestatic 146, 3) := by decide +kernel
theorem d_FW_significand_25 : decode b_FW_significand 25 = .ok (.lor, 1) := by decide +kernel
theorem d_FW_significand_26 : decode b_FW_significand 26 = .ok (.lreturn, 1) := by decide +kernel
theorem d_FW_binaryPower_0 : decode b_FW_binaryPower 0 = .ok (.lload_n 0, 1) := by decide +kernel
theorem d_FW_binaryPower_1 : decode b_FW_binaryPower 1 = .ok (.iload_n 2, 1) := by decide +kernel
theorem d_FW_binaryPower_2 : decode b_FW_binaryPower 2 = .ok (.invokestatic 143, 3) := by decide +kernel
theorem d_FW_binaryPower_5 : decode b_FW_binaryPower 5 = .ok (.iconst 1, 1) := by decide +kernel
theorem d_FW_binaryPower_6 : decode b_FW_binaryPower 6 = .ok (.invokestatic 149, 3) := by decide +kernel
theorem d_FW_binaryPower_9 : decode b_FW_binaryPower 9 = .ok (.iload_n 2, 1) := by decide +kernel
theorem d_FW_binaryPower_10 : decode b_FW_binaryPower 10 = .ok (.ifCond .eq 9, 3) := by decide +kernel
theorem d_FW_binaryPower_13 : decode b_FW_binaryPower 13 = .ok (.sipush 150, 3) := by decide +kernel
theorem d_FW_binaryPower_16 : decode b_FW_binaryPower 16 = .ok (.goto 6, 3) := by decide +kernel
theorem d_FW_binaryPower_19 : decode b_FW_binaryPower 19 = .ok (.sipush 1075, 3) := by decide +kernel
theorem d_FW_binaryPower_22 : decode b_FW_binaryPower 22 = .ok (.isub, 1) := by decide +kernel
theorem d_FW_binaryPower_23 : decode b_FW_binaryPower 23 = .ok (.ireturn, 1) := by decide +kernel
theorem d_FW_isCloserBelow_0 : decode b_FW_isCloserBelow 0 = .ok (.lload_n 0, 1) := by decide +kernel
theorem d_FW_isCloserBelow_1 : decode b_FW_isCloserBelow 1 = .ok (.iload_n 2, 1) := by decide +kernel
theorem d_FW_isCloserBelow_2 : decode b_FW_isCloserBelow 2 = .ok (.invokestatic 146, 3) := by decide +kernel
theorem d_FW_isCloserBelow_5 : decode b_FW_isCloserBelow 5 = .ok (.lconst 0, 1) := by decide +kernel
theorem d_FW_isCloserBelow_6 : decode b_FW_isCloserBelow 6 = .ok (.lcmp, 1) := by decide +kernel
theorem d_FW_isCloserBelow_7 : decode b_FW_isCloserBelow 7 = .ok (.ifCond .ne 16, 3) := by decide +kernel
theorem d_FW_isCloserBelow_10 : decode b_FW_isCloserBelow 10 = .ok (.lload_n 0, 1) := by decide +kernel
theorem d_FW_isCloserBelow_11 : decode b_FW_isCloserBelow 11 = .ok (.iload_n 2, 1) := by decide +kernel
theorem d_FW_isCloserBelow_12 : decode b_FW_isCloserBelow 12 = .ok (.invokestatic 143, 3) := by decide +kernel
theorem d_FW_isCloserBelow_15 : decode b_FW_isCloserBelow 15 = .ok (.iconst 1, 1) := by decide +kernel
theorem d_FW_isCloserBelow_16 : decode b_FW_isCloserBelow 16 = .ok (.if_icmp .le 7, 3) := by decide +kernel
theorem d_FW_isCloserBelow_19 : decode b_FW_isCloserBelow 19 = .ok (.iconst 1, 1) := by decide +kernel
theorem d_FW_isCloserBelow_20 : decode b_FW_isCloserBelow 20 = .ok (.goto 4, 3) := by decide +kernel
theorem d_FW_isCloserBelow_23 : decode b_FW_isCloserBelow 23 = .ok (.iconst 0, 1) := by decide +kernel
theorem d_FW_isCloserBelow_24 : decode b_FW_isCloserBelow 24 = .ok (.ireturn, 1) := by decide +kernel
abbrev Qc_FW_fractionBits (D : va_G) (nw : Bool) (A : Nat → Prop) : Array Value → State → Outcome → State → Prop := vp_Si (fun r : Int32 => r = iZ (((fP nw : Nat) : Int)))
set_option maxHeartbeats 4000000 in
set_option maxRecDepth 100000 in
theorem c_FW_fractionBits (l : Launch) (D : va_G) (Z : Nat → Nat) (hz9 : Nat) (nw : Bool)  : Met l y_FW_fractionBits (.code y_FW_fractionBits b_FW_fractionBits 1 (some .int) :: gT) ({ frames := 0, cells := 0, slots := 0, locals := 0 } : Room) (va_Pc [.int (bZ (nw = true))] (cpre D Z [] [] hz9)) (Qc_FW_fractionBits D nw (va_A [] hz9)) 0 0 (fun _ => False) := by
  refine met_go (Qf := Qc_FW_fractionBits D nw) (ff := fun _ _ => False) (by decide) ?_
  intro p e s m below meth c A C0 hin hsz9 hA hE hK hP hD
  obtain ⟨hx, hb, hml, hown, hts, hr, hlocks⟩ := id C0
  have hS : va_S A s.heap s.heap [] := va_S.rf
  have hl := lv_entry [.int (bZ (nw = true))] (n := 1) (Nat.le_of_ble_eq_true rfl)
  rw [lg_entry_eq]
  generalize (lg_sl [.int (bZ (nw = true))] ++ List.replicate (1 - (lg_sl [.int (bZ (nw = true))]).length) Slot.unset).toArray = ls at hl ⊢
  have hl : lv_has ls 1 [(0, .int (bZ (nw = true)))] := hl
  refine lv_iload_n hx hb d_FW_fractionBits_0 rfl (lv_at hl 0 rfl) ?_
  refine bv_if_eq (tgt := 9) hx hb d_FW_fractionBits_1 (by decide) (fun c1 => ?_) (fun c1 => ?_)
  · refine lv_bipush (v := iZ (52)) hx hb d_FW_fractionBits_9 (by decide) ?_
    exact er_i hx hb hr hlocks d_FW_fractionBits_11 (show iZ (52) = iZ (((fP nw : Nat) : Int)) from by unfold fP; split <;> first | rfl | contradiction)
  · refine lv_bipush (v := iZ (23)) hx hb d_FW_fractionBits_4 (by decide) ?_
    refine lv_goto (tgt := 11) hx hb d_FW_fractionBits_6 (by decide) ?_
    exact er_i hx hb hr hlocks d_FW_fractionBits_11 (show iZ (23) = iZ (((fP nw : Nat) : Int)) from by unfold fP; split <;> first | rfl | contradiction)
abbrev Qc_FW_infinity (D : va_G) (nw : Bool) (A : Nat → Prop) : Array Value → State → Outcome → State → Prop := vp_Sl (fun r : Int64 => r = lN (fI nw))
set_option maxHeartbeats 4000000 in
set_option maxRecDepth 100000 in
theorem c_FW_infinity (l : Launch) (D : va_G) (Z : Nat → Nat) (hz9 : Nat) (nw : Bool)  : Met l y_FW_infinity (.code y_FW_infinity b_FW_infinity 1 (some .long) :: gT) ({ frames := 0, cells := 0, slots := 0, locals := 0 } : Room) (va_Pc [.int (bZ (nw = true))] (cpre D Z [] [] hz9)) (Qc_FW_infinity D nw (va_A [] hz9)) 0 0 (fun _ => False) := by
  refine met_go (Qf := Qc_FW_infinity D nw) (ff := fun _ _ => False) (by decide) ?_
  intro p e s m below meth c A C0 hin hsz9 hA hE hK hP hD
  obtain ⟨hx, hb, hml, hown, hts, hr, hlocks⟩ := id C0
  have hS : va_S A s.heap s.heap [] := va_S.rf
  have hl := lv_entry [.int (bZ (nw = true))] (n := 1) (Nat.le_of_ble_eq_true rfl)
  rw [lg_entry_eq]
  generalize (lg_sl [.int (bZ (nw = true))] ++ List.replicate (1 - (lg_sl [.int (bZ (nw = true))]).length) Slot.unset).toArray = ls at hl ⊢
  have hl : lv_has ls 1 [(0, .int (bZ (nw = true)))] := hl
  refine lv_iload_n hx hb d_FW_infinity_0 rfl (lv_at hl 0 rfl) ?_
  refine bv_if_eq (tgt := 10) hx hb d_FW_infinity_1 (by decide) (fun c1 => ?_) (fun c1 => ?_)
  · refine lv_ldc2 (v := (9218868437227405312)) hx hb hown (hts _ kw_1_) d_FW_infinity_10 ?_
    refine nv_top (y := lN 9218868437227405312) (by decide) ?_
    exact er_l hx hb hr hlocks d_FW_infinity_13 (show lN (9218868437227405312) = lN (fI nw) from by unfold fI; split <;> first | rfl | contradiction)
  · refine lv_ldc2 (v := (2139095040)) hx hb hown (hts _ kw_2_) d_FW_infinity_4 ?_
    refine nv_top (y := lN 2139095040) (by decide) ?_
    refine lv_goto (tgt := 13) hx hb d_FW_infinity_7 (by decide) ?_
    exact er_l hx hb hr hlocks d_FW_infinity_13 (show lN (2139095040) = lN (fI nw) from by unfold fI; split <;> first | rfl | contradiction)
abbrev Qc_FW_signBit (D : va_G) (nw : Bool) (A : Nat → Prop) : Array Value → State → Outcome → State → Prop := vp_Sl (fun r : Int64 => r = lN (fS nw))
set_option maxHeartbeats 4000000 in
set_option maxRecDepth 100000 in
theorem c_FW_signBit (l : Launch) (D : va_G) (Z : Nat → Nat) (hz9 : Nat) (nw : Bool)  : Met l y_FW_signBit (.code y_FW_signBit b_FW_signBit 1 (some .long) :: gT) ({ frames := 0, cells := 0, slots := 0, locals := 0 } : Room) (va_Pc [.int (bZ (nw = true))] (cpre D Z [] [] hz9)) (Qc_FW_signBit D nw (va_A [] hz9)) 0 0 (fun _ => False) := by
  refine met_go (Qf := Qc_FW_signBit D nw) (ff := fun _ _ => False) (by decide) ?_
  intro p e s m below meth c A C0 hin hsz9 hA hE hK hP hD
  obtain ⟨hx, hb, hml, hown, hts, hr, hlocks⟩ := id C0
  have hS : va_S A s.heap s.heap [] := va_S.rf
  have hl := lv_entry [.int (bZ (nw = true))] (n := 1) (Nat.le_of_ble_eq_true rfl)
  rw [lg_entry_eq]
  generalize (lg_sl [.int (bZ (nw = true))] ++ List.replicate (1 - (lg_sl [.int (bZ (nw = true))]).length) Slot.unset).toArray = ls at hl ⊢
  have hl : lv_has ls 1 [(0, .int (bZ (nw = true)))] := hl
  refine lv_lconst (v := lN 1) hx hb d_FW_signBit_0 rfl ?_
  refine lv_iload_n hx hb d_FW_signBit_1 rfl (lv_at hl 0 rfl) ?_
  refine bv_if_eq (tgt := 10) hx hb d_FW_signBit_2 (by decide) (fun c2 => ?_) (fun c2 => ?_)
  · refine lv_bipush (v := iZ (63)) hx hb d_FW_signBit_10 (by decide) ?_
    refine nv_lshl (k := 63) hx hb d_FW_signBit_12 (by omega) (by omega) ?_
    exact er_l hx hb hr hlocks d_FW_signBit_13 (show lN (1 * 2 ^ 63) = lN (fS nw) from by unfold fS; split <;> first | rfl | contradiction)
  · refine lv_bipush (v := iZ (31)) hx hb d_FW_signBit_5 (by decide) ?_
    refine lv_goto (tgt := 12) hx hb d_FW_signBit_7 (by decide) ?_
    refine nv_lshl (k := 31) hx hb d_FW_signBit_12 (by omega) (by omega) ?_
    exact er_l hx hb hr hlocks d_FW_signBit_13 (show lN (1 * 2 ^ 31) = lN (fS nw) from by unfold fS; split <;> first | rfl | contradiction)
abbrev Qc_FW_isNegative (D : va_G) (b : Nat) (nw : Bool) (A : Nat → Prop) : Array Value → State → Outcome → State → Prop := vp_Si (fun r : Int32 => r = bZ (b / fS nw % 2 = 1))
set_option maxHeartbeats 4000000 in
set_option maxRecDepth 100000 in
theorem c_FW_isNegative (l : Launch) (D : va_G) (Z : Nat → Nat) (hz9 : Nat) (b : Nat) (nw : Bool) (hb9 : b < 18446744073709551616) : Met l y_FW_isNegative (.code y_FW_isNegative b_FW_isNegative 3 (some .boolean) :: gT) ({ frames := 1, cells := 0, slots := 0, locals := 20 } : Room) (va_Pc [.long (lN (b)), .int (bZ (nw = true))] (cpre D Z [] [] hz9)) (Qc_FW_isNegative D b nw (va_A [] hz9)) 0 0 (fun _ => False) := by
  refine met_go (Qf := Qc_FW_isNegative D b nw) (ff := fun _ _ => False) (by decide) ?_
  intro p e s m below meth c A C0 hin hsz9 hA hE hK hP hD
  obtain ⟨hx, hb, hml, hown, hts, hr, hlocks⟩ := id C0
  have hS : va_S A s.heap s.heap [] := va_S.rf
  have hl := lv_entry [.long (lN (b)), .int (bZ (nw = true))] (n := 3) (Nat.le_of_ble_eq_true rfl)
  rw [lg_entry_eq]
  generalize (lg_sl [.long (lN (b)), .int (bZ (nw = true))] ++ List.replicate (3 - (lg_sl [.long (lN (b)), .int (bZ (nw = true))]).length) Slot.unset).toArray = ls at hl ⊢
  have hl : lv_has ls 3 [(0, .long (lN (b))), (2, .int (bZ (nw = true)))] := hl
  refine lv_lload_n hx hb d_FW_isNegative_0 rfl (lv_at hl 0 rfl) ?_
  refine lv_iload_n hx hb d_FW_isNegative_1 rfl (lv_at hl 1 rfl) ?_
  refine kg_l (kr_S (As := [.int (bZ (nw = true))]) (rest := [.long (lN (b))]) C0 (c_FW_signBit l D Z _ nw ) q_y_FW_signBit kw_5_ kw_4_ kw_3_ hd_y_FW_signBit rfl rfl ⟨Nat.le_of_ble_eq_true rfl, Nat.le_of_ble_eq_true rfl⟩ (hP.sub (ws' := []) [] rfl) (hD.sub (ws' := []) [] (by decide) rfl) (hK.sub (tys' := []) [] rfl) hE hS (va_free (wc := []) hD hS hA [] rfl) rfl hl.1 rfl (Nat.le_of_ble_eq_true rfl) d_FW_isNegative_2 ⟨Nat.le_of_ble_eq_true rfl, Nat.le_of_ble_eq_true rfl⟩) (fun r hr1 => ?_)
  obtain rfl : r = lN (fS nw) := hr1
  refine nv_land hx hb d_FW_isNegative_5 (by omega) (Nat.lt_of_le_of_lt (fS_lt nw) (by decide)) ?_
  refine nv_top (y := lN (fS nw * (b / fS nw % 2))) (by rw [and_fS]) ?_
  refine lv_lconst (v := lN 0) hx hb d_FW_isNegative_6 rfl ?_
  refine nv_lcmp_eq (tgt := 15) hx hb d_FW_isNegative_7 d_FW_isNegative_8 (by decide) (Nat.lt_of_le_of_lt (Nat.mul_le_mul (fS_lt nw) (Nat.le_of_lt_succ (Nat.mod_lt _ (by decide)))) (by decide)) (by omega) (fun c7 => ?_) (fun c7 => ?_)
  · have c7 : ¬ b / fS nw % 2 = 1 := fun q => absurd c7 (by rw [q]; have := fS_pos nw; omega)
    refine lv_iconst (v := iZ (0)) hx hb d_FW_isNegative_15 rfl ?_
    exact er_z hx hb hr hlocks (by decide) d_FW_isNegative_16 (show iZ (0) = bZ (b / fS nw % 2 = 1) from by first | exact (bZ_t c7).symm | exact (bZ_f c7).symm)
  · have c7 : b / fS nw % 2 = 1 := by
      have h2 := Nat.mod_lt (b / fS nw) (show 0 < 2 by decide)
      rcases (show b / fS nw % 2 = 0 ∨ b / fS nw % 2 = 1 by omega) with q | q
      · exact absurd (by rw [q]; exact Nat.mul_zero _) c7
      · exact q
    refine lv_iconst (v := iZ (1)) hx hb d_FW_isNegative_11 rfl ?_
    refine lv_goto (tgt := 16) hx hb d_FW_isNegative_12 (by decide) ?_
    exact er_z hx hb hr hlocks (by decide) d_FW_isNegative_16 (show iZ (1) = bZ (b / fS nw % 2 = 1) from by first | exact (bZ_t c7).symm | exact (bZ_f c7).symm)
abbrev Qc_FW_sizeBits (D : va_G) (b : Nat) (nw : Bool) (A : Nat → Prop) : Array Value → State → Outcome → State → Prop := vp_Sl (fun r : Int64 => r = lN (fSz b nw))
set_option maxHeartbeats 4000000 in
set_option maxRecDepth 100000 in
theorem c_FW_sizeBits (l : Launch) (D : va_G) (Z : Nat → Nat) (hz9 : Nat) (b : Nat) (nw : Bool) (hb9 : b < 18446744073709551616) : Met l y_FW_sizeBits (.code y_FW_sizeBits b_FW_sizeBits 3 (some .long) :: gT) ({ frames := 1, cells := 0, slots := 0, locals := 20 } : Room) (va_Pc [.long (lN (b)), .int (bZ (nw = true))] (cpre D Z [] [] hz9)) (Qc_FW_sizeBits D b nw (va_A [] hz9)) 0 0 (fun _ => False) := by
  refine met_go (Qf := Qc_FW_sizeBits D b nw) (ff := fun _ _ => False) (by decide) ?_
  intro p e s m below meth c A C0 hin hsz9 hA hE hK hP hD
  obtain ⟨hx, hb, hml, hown, hts, hr, hlocks⟩ := id C0
  have hS : va_S A s.heap s.heap [] := va_S.rf
  have hl := lv_entry [.long (lN (b)), .int (bZ (nw = true))] (n := 3) (Nat.le_of_ble_eq_true rfl)
  rw [lg_entry_eq]
  generalize (lg_sl [.long (lN (b)), .int (bZ (nw = true))] ++ List.replicate (3 - (lg_sl [.long (lN (b)), .int (bZ (nw = true))]).length) Slot.unset).toArray = ls at hl ⊢
  have hl : lv_has ls 3 [(0, .long (lN (b))), (2, .int (bZ (nw = true)))] := hl
  refine lv_lload_n hx hb d_FW_sizeBits_0 rfl (lv_at hl 0 rfl) ?_
  refine lv_iload_n hx hb d_FW_sizeBits_1 rfl (lv_at hl 1 rfl) ?_
  refine kg_l (kr_S (As := [.int (bZ (nw = true))]) (rest := [.long (lN (b))]) C0 (c_FW_signBit l D Z _ nw ) q_y_FW_signBit kw_5_ kw_4_ kw_3_ hd_y_FW_signBit rfl rfl ⟨Nat.le_of_ble_eq_true rfl, Nat.le_of_ble_eq_true rfl⟩ (hP.sub (ws' := []) [] rfl) (hD.sub (ws' := []) [] (by decide) rfl) (hK.sub (tys' := []) [] rfl) hE hS (va_free (wc := []) hD hS hA [] rfl) rfl hl.1 rfl (Nat.le_of_ble_eq_true rfl) d_FW_sizeBits_2 ⟨Nat.le_of_ble_eq_true rfl, Nat.le_of_ble_eq_true rfl⟩) (fun r hr1 => ?_)
  obtain rfl : r = lN (fS nw) := hr1
  refine lv_lconst (v := lN 1) hx hb d_FW_sizeBits_5 rfl ?_
  refine nv_lsub hx hb d_FW_sizeBits_6 (fS_pos nw) ?_
  refine nv_land hx hb d_FW_sizeBits_7 (by omega) (by have := fS_lt nw; omega) ?_
  refine nv_top (y := lN (fSz b nw)) (by rw [and_fS1]) ?_
  exact er_l hx hb hr hlocks d_FW_sizeBits_8 (show lN (fSz b nw) = lN (fSz b nw) from rfl)
abbrev Qc_FW_isFinite (D : va_G) (b : Nat) (nw : Bool) (A : Nat → Prop) : Array Value → State → Outcome → State → Prop := vp_Si (fun r : Int32 => r = bZ (fSz b nw < fI nw))
set_option maxHeartbeats 4000000 in
set_option maxRecDepth 100000 in
theorem c_FW_isFinite (l : Launch) (D : va_G) (Z : Nat → Nat) (hz9 : Nat) (b : Nat) (nw : Bool) (hb9 : b < 18446744073709551616) : Met l y_FW_isFinite (.code y_FW_isFinite b_FW_isFinite 3 (some .boolean) :: gT) ({ frames := 2, cells := 0, slots := 0, locals := 42 } : Room) (va_Pc [.long (lN (b)), .int (bZ (nw = true))] (cpre D Z [] [] hz9)) (Qc_FW_isFinite D b nw (va_A [] hz9)) 0 0 (fun _ => False) := by
  refine met_go (Qf := Qc_FW_isFinite D b nw) (ff := fun _ _ => False) (by decide) ?_
  intro p e s m below meth c A C0 hin hsz9 hA hE hK hP hD
  obtain ⟨hx, hb, hml, hown, hts, hr, hlocks⟩ := id C0
  have hS : va_S A s.heap s.heap [] := va_S.rf
  have hl := lv_entry [.long (lN (b)), .int (bZ (nw = true))] (n := 3) (Nat.le_of_ble_eq_true rfl)
  rw [lg_entry_eq]
  generalize (lg_sl [.long (lN (b)), .int (bZ (nw = true))] ++ List.replicate (3 - (lg_sl [.long (lN (b)), .int (bZ (nw = true))]).length) Slot.unset).toArray = ls at hl ⊢
  have hl : lv_has ls 3 [(0, .long (lN (b))), (2, .int (bZ (nw = true)))] := hl
  refine lv_lload_n hx hb d_FW_isFinite_0 rfl (lv_at hl 0 rfl) ?_
  refine lv_iload_n hx hb d_FW_isFinite_1 rfl (lv_at hl 1 rfl) ?_
  refine kg_l (kr_S (As := [.long (lN (b)), .int (bZ (nw = true))]) (rest := []) C0 (c_FW_sizeBits l D Z _ b nw (by assumption)) q_y_FW_sizeBits kw_7_ kw_6_ kw_3_ hd_y_FW_sizeBits rfl rfl ⟨Nat.le_of_ble_eq_true rfl, Nat.le_of_ble_eq_true rfl⟩ (hP.sub (ws' := []) [] rfl) (hD.sub (ws' := []) [] (by decide) rfl) (hK.sub (tys' := []) [] rfl) hE hS (va_free (wc := []) hD hS hA [] rfl) rfl hl.1 rfl (Nat.le_of_ble_eq_true rfl) d_FW_isFinite_2 ⟨Nat.le_of_ble_eq_true rfl, Nat.le_of_ble_eq_true rfl⟩) (fun r hr1 => ?_)
  obtain rfl : r = lN (fSz b nw) := hr1
  refine lv_iload_n hx hb d_FW_isFinite_5 rfl (lv_at hl 1 rfl) ?_
  refine kg_l (kr_S (As := [.int (bZ (nw = true))]) (rest := [.long (lN (fSz b nw))]) C0 (c_FW_infinity l D Z _ nw ) q_y_FW_infinity kw_9_ kw_8_ kw_3_ hd_y_FW_infinity rfl rfl ⟨Nat.le_of_ble_eq_true rfl, Nat.le_of_ble_eq_true rfl⟩ (hP.sub (ws' := []) [] rfl) (hD.sub (ws' := []) [] (by decide) rfl) (hK.sub (tys' := []) [] rfl) hE hS (va_free (wc := []) hD hS hA [] rfl) rfl hl.1 rfl (Nat.le_of_ble_eq_true rfl) d_FW_isFinite_6 ⟨Nat.le_of_ble_eq_true rfl, Nat.le_of_ble_eq_true rfl⟩) (fun r hr1 => ?_)
  obtain rfl : r = lN (fI nw) := hr1
  refine nv_lcmp_ge (tgt := 17) hx hb d_FW_isFinite_9 d_FW_isFinite_10 (by decide) (fSz_lt b nw) (fI_lt nw) (fun c9 => ?_) (fun c9 => ?_)
  · refine lv_iconst (v := iZ (0)) hx hb d_FW_isFinite_17 rfl ?_
    exact er_z hx hb hr hlocks (by decide) d_FW_isFinite_18 (show iZ (0) = bZ (fSz b nw < fI nw) from by first | exact (bZ_t (by omega)).symm | exact (bZ_f (by omega)).symm)
  · refine lv_iconst (v := iZ (1)) hx hb d_FW_isFinite_13 rfl ?_
    refine lv_goto (tgt := 18) hx hb d_FW_isFinite_14 (by decide) ?_
    exact er_z hx hb hr hlocks (by decide) d_FW_isFinite_18 (show iZ (1) = bZ (fSz b nw < fI nw) from by first | exact (bZ_t (by omega)).symm | exact (bZ_f (by omega)).symm)
abbrev Qc_FW_exponent (D : va_G) (b : Nat) (nw : Bool) (A : Nat → Prop) : Array Value → State → Outcome → State → Prop := vp_Si (fun r : Int32 => r = iZ (((fE b nw : Nat) : Int)))
set_option maxHeartbeats 4000000 in
set_option maxRecDepth 100000 in
theorem c_FW_exponent (l : Launch) (D : va_G) (Z : Nat → Nat) (hz9 : Nat) (b : Nat) (nw : Bool) (hb9 : b < 18446744073709551616) : Met l y_FW_exponent (.code y_FW_exponent b_FW_exponent 3 (some .int) :: gT) ({ frames := 2, cells := 0, slots := 0, locals := 42 } : Room) (va_Pc [.long (lN (b)), .int (bZ (nw = true))] (cpre D Z [] [] hz9)) (Qc_FW_exponent D b nw (va_A [] hz9)) 0 0 (fun _ => False) := by
  refine met_go (Qf := Qc_FW_exponent D b nw) (ff := fun _ _ => False) (by decide) ?_
  intro p e s m below meth c A C0 hin hsz9 hA hE hK hP hD
  obtain ⟨hx, hb, hml, hown, hts, hr, hlocks⟩ := id C0
  have hS : va_S A s.heap s.heap [] := va_S.rf
  have hl := lv_entry [.long (lN (b)), .int (bZ (nw = true))] (n := 3) (Nat.le_of_ble_eq_true rfl)
  rw [lg_entry_eq]
  generalize (lg_sl [.long (lN (b)), .int (bZ (nw = true))] ++ List.replicate (3 - (lg_sl [.long (lN (b)), .int (bZ (nw = true))]).length) Slot.unset).toArray = ls at hl ⊢
  have hl : lv_has ls 3 [(0, .long (lN (b))), (2, .int (bZ (nw = true)))] := hl
  refine lv_lload_n hx hb d_FW_exponent_0 rfl (lv_at hl 0 rfl) ?_
  refine lv_iload_n hx hb d_FW_exponent_1 rfl (lv_at hl 1 rfl) ?_
  refine kg_l (kr_S (As := [.long (lN (b)), .int (bZ (nw = true))]) (rest := []) C0 (c_FW_sizeBits l D Z _ b nw (by assumption)) q_y_FW_sizeBits kw_7_ kw_6_ kw_3_ hd_y_FW_sizeBits rfl rfl ⟨Nat.le_of_ble_eq_true rfl, Nat.le_of_ble_eq_true rfl⟩ (hP.sub (ws' := []) [] rfl) (hD.sub (ws' := []) [] (by decide) rfl) (hK.sub (tys' := []) [] rfl) hE hS (va_free (wc := []) hD hS hA [] rfl) rfl hl.1 rfl (Nat.le_of_ble_eq_true rfl) d_FW_exponent_2 ⟨Nat.le_of_ble_eq_true rfl, Nat.le_of_ble_eq_true rfl⟩) (fun r hr1 => ?_)
  obtain rfl : r = lN (fSz b nw) := hr1
  refine lv_iload_n hx hb d_FW_exponent_5 rfl (lv_at hl 1 rfl) ?_
  refine kg_i (kr_S (As := [.int (bZ (nw = true))]) (rest := [.long (lN (fSz b nw))]) C0 (c_FW_fractionBits l D Z _ nw ) q_y_FW_fractionBits kw_11_ kw_10_ kw_3_ hd_y_FW_fractionBits rfl rfl ⟨Nat.le_of_ble_eq_true rfl, Nat.le_of_ble_eq_true rfl⟩ (hP.sub (ws' := []) [] rfl) (hD.sub (ws' := []) [] (by decide) rfl) (hK.sub (tys' := []) [] rfl) hE hS (va_free (wc := []) hD hS hA [] rfl) rfl hl.1 rfl (Nat.le_of_ble_eq_true rfl) d_FW_exponent_6 ⟨Nat.le_of_ble_eq_true rfl, Nat.le_of_ble_eq_true rfl⟩) (fun r hr1 => ?_)
  obtain rfl : r = iZ (((fP nw : Nat) : Int)) := hr1
  refine nv_lushr (k := (fP nw)) hx hb d_FW_exponent_9 (rfl) (Nat.lt_trans (fSz_lt b nw) (by decide)) (by rcases fP_cases nw with q | q <;> omega) ?_
  refine nv_l2i hx hb d_FW_exponent_10 ?_
  exact er_i hx hb hr hlocks d_FW_exponent_11 (show iZ ((((fSz b nw) / 2 ^ (fP nw) : Nat) : Int)) = iZ (((fE b nw : Nat) : Int)) from rfl)
abbrev Qc_FW_fraction (D : va_G) (b : Nat) (nw : Bool) (A : Nat → Prop) : Array Value → State → Outcome → State → Prop := vp_Sl (fun r : Int64 => r = lN (fF b nw))
set_option maxHeartbeats 4000000 in
set_option maxRecDepth 100000 in
theorem c_FW_fraction (l : Launch) (D : va_G) (Z : Nat → Nat) (hz9 : Nat) (b : Nat) (nw : Bool) (hb9 : b < 18446744073709551616) : Met l y_FW_fraction (.code y_FW_fraction b_FW_fraction 3 (some .long) :: gT) ({ frames := 1, cells := 0, slots := 0, locals := 20 } : Room) (va_Pc [.long (lN (b)), .int (bZ (nw = true))] (cpre D Z [] [] hz9)) (Qc_FW_fraction D b nw (va_A [] hz9)) 0 0 (fun _ => False) := by
  refine met_go (Qf := Qc_FW_fraction D b nw) (ff := fun _ _ => False) (by decide) ?_
  intro p e s m below meth c A C0 hin hsz9 hA hE hK hP hD
  obtain ⟨hx, hb, hml, hown, hts, hr, hlocks⟩ := id C0
  have hS : va_S A s.heap s.heap [] := va_S.rf
  have hl := lv_entry [.long (lN (b)), .int (bZ (nw = true))] (n := 3) (Nat.le_of_ble_eq_true rfl)
  rw [lg_entry_eq]
  generalize (lg_sl [.long (lN (b)), .int (bZ (nw = true))] ++ List.replicate (3 - (lg_sl [.long (lN (b)), .int (bZ (nw = true))]).length) Slot.unset).toArray = ls at hl ⊢
  have hl : lv_has ls 3 [(0, .long (lN (b))), (2, .int (bZ (nw = true)))] := hl
  refine lv_lload_n hx hb d_FW_fraction_0 rfl (lv_at hl 0 rfl) ?_
  refine lv_lconst (v := lN 1) hx hb d_FW_fraction_1 rfl ?_
  refine lv_iload_n hx hb d_FW_fraction_2 rfl (lv_at hl 1 rfl) ?_
  refine kg_i (kr_S (As := [.int (bZ (nw = true))]) (rest := [.long (lN (1)), .long (lN (b))]) C0 (c_FW_fractionBits l D Z _ nw ) q_y_FW_fractionBits kw_11_ kw_10_ kw_3_ hd_y_FW_fractionBits rfl rfl ⟨Nat.le_of_ble_eq_true rfl, Nat.le_of_ble_eq_true rfl⟩ (hP.sub (ws' := []) [] rfl) (hD.sub (ws' := []) [] (by decide) rfl) (hK.sub (tys' := []) [] rfl) hE hS (va_free (wc := []) hD hS hA [] rfl) rfl hl.1 rfl (Nat.le_of_ble_eq_true rfl) d_FW_fraction_3 ⟨Nat.le_of_ble_eq_true rfl, Nat.le_of_ble_eq_true rfl⟩) (fun r hr1 => ?_)
  obtain rfl : r = iZ (((fP nw : Nat) : Int)) := hr1
  refine nv_lshl (k := (fP nw)) hx hb d_FW_fraction_6 (rfl) (by rcases fP_cases nw with q | q <;> omega) ?_
  refine lv_lconst (v := lN 1) hx hb d_FW_fraction_7 rfl ?_
  refine nv_lsub hx hb d_FW_fraction_8 (by rw [Nat.one_mul]; exact Nat.pow_pos (by decide)) ?_
  refine nv_land hx hb d_FW_fraction_9 (by omega) (by have := fP_pow nw; omega) ?_
  refine nv_top (y := lN (fF b nw)) (by rw [Nat.one_mul, Nat.and_two_pow_sub_one_eq_mod]; rfl) ?_
  exact er_l hx hb hr hlocks d_FW_fraction_10 (show lN (fF b nw) = lN (fF b nw) from rfl)
abbrev Qc_FW_significand (D : va_G) (b : Nat) (nw : Bool) (A : Nat → Prop) : Array Value → State → Outcome → State → Prop := vp_Sl (fun r : Int64 => r = lN (fM b nw))
set_option maxHeartbeats 4000000 in
set_option maxRecDepth 100000 in
theorem c_FW_significand (l : Launch) (D : va_G) (Z : Nat → Nat) (hz9 : Nat) (b : Nat) (nw : Bool) (hb9 : b < 18446744073709551616) : Met l y_FW_significand (.code y_FW_significand b_FW_significand 5 (some .long) :: gT) ({ frames := 3, cells := 0, slots := 0, locals := 64 } : Room) (va_Pc [.long (lN (b)), .int (bZ (nw = true))] (cpre D Z [] [] hz9)) (Qc_FW_significand D b nw (va_A [] hz9)) 0 0 (fun _ => False) := by
  refine met_go (Qf := Qc_FW_significand D b nw) (ff := fun _ _ => False) (by decide) ?_
  intro p e s m below meth c A C0 hin hsz9 hA hE hK hP hD
  obtain ⟨hx, hb, hml, hown, hts, hr, hlocks⟩ := id C0
  have hS : va_S A s.heap s.heap [] := va_S.rf
  have hl := lv_entry [.long (lN (b)), .int (bZ (nw = true))] (n := 5) (Nat.le_of_ble_eq_true rfl)
  rw [lg_entry_eq]
  generalize (lg_sl [.long (lN (b)), .int (bZ (nw = true))] ++ List.replicate (5 - (lg_sl [.long (lN (b)), .int (bZ (nw = true))]).length) Slot.unset).toArray = ls at hl ⊢
  have hl : lv_has ls 5 [(0, .long (lN (b))), (2, .int (bZ (nw = true)))] := hl
  refine lv_lload_n hx hb d_FW_significand_0 rfl (lv_at hl 0 rfl) ?_
  refine lv_iload_n hx hb d_FW_significand_1 rfl (lv_at hl 1 rfl) ?_
  refine kg_i (kr_S (As := [.long (lN (b)), .int (bZ (nw = true))]) (rest := []) C0 (c_FW_exponent l D Z _ b nw (by assumption)) q_y_FW_exponent kw_13_ kw_12_ kw_3_ hd_y_FW_exponent rfl rfl ⟨Nat.le_of_ble_eq_true rfl, Nat.le_of_ble_eq_true rfl⟩ (hP.sub (ws' := []) [] rfl) (hD.sub (ws' := []) [] (by decide) rfl) (hK.sub (tys' := []) [] rfl) hE hS (va_free (wc := []) hD hS hA [] rfl) rfl hl.1 rfl (Nat.le_of_ble_eq_true rfl) d_FW_significand_2 ⟨Nat.le_of_ble_eq_true rfl, Nat.le_of_ble_eq_true rfl⟩) (fun r hr1 => ?_)
  obtain rfl : r = iZ (((fE b nw : Nat) : Int)) := hr1
  refine zv_if_ne (tgt := 12) hx hb d_FW_significand_5 (by decide) (by have := fE_lt b nw; omega) (fun c5 => ?_) (fun c5 => ?_)
  · refine lv_lconst (v := lN 1) hx hb d_FW_significand_12 rfl ?_
    refine lv_iload_n hx hb d_FW_significand_13 rfl (lv_at hl 1 rfl) ?_
    refine kg_i (kr_S (As := [.int (bZ (nw = true))]) (rest := [.long (lN (1))]) C0 (c_FW_fractionBits l D Z _ nw ) q_y_FW_fractionBits kw_11_ kw_10_ kw_3_ hd_y_FW_fractionBits rfl rfl ⟨Nat.le_of_ble_eq_true rfl, Nat.le_of_ble_eq_true rfl⟩ (hP.sub (ws' := []) [] rfl) (hD.sub (ws' := []) [] (by decide) rfl) (hK.sub (tys' := []) [] rfl) hE hS (va_free (wc := []) hD hS hA [] rfl) rfl hl.1 rfl (Nat.le_of_ble_eq_true rfl) d_FW_significand_14 ⟨Nat.le_of_ble_eq_true rfl, Nat.le_of_ble_eq_true rfl⟩) (fun r hr1 => ?_)
    obtain rfl : r = iZ (((fP nw : Nat) : Int)) := hr1
    refine nv_lshl (k := (fP nw)) hx hb d_FW_significand_17 (rfl) (by rcases fP_cases nw with q | q <;> omega) ?_
    refine lv_lstore_n (lv' := [(3, .long (lN (1 * 2 ^ (fP nw)))), (0, .long (lN (b))), (2, .int (bZ (nw = true)))]) hx hb d_FW_significand_18 rfl hl (by decide) rfl (fun ls hl => ?_)
    refine lv_lload_n hx hb d_FW_significand_19 rfl (lv_at hl 0 rfl) ?_
    refine lv_lload_n hx hb d_FW_significand_20 rfl (lv_at hl 1 rfl) ?_
    refine lv_iload_n hx hb d_FW_significand_21 rfl (lv_at hl 2 rfl) ?_
    refine kg_l (kr_S (As := [.long (lN (b)), .int (bZ (nw = true))]) (rest := [.long (lN (1 * 2 ^ (fP nw)))]) C0 (c_FW_fraction l D Z _ b nw (by assumption)) q_y_FW_fraction kw_15_ kw_14_ kw_3_ hd_y_FW_fraction rfl rfl ⟨Nat.le_of_ble_eq_true rfl, Nat.le_of_ble_eq_true rfl⟩ (hP.sub (ws' := []) [] rfl) (hD.sub (ws' := []) [] (by decide) rfl) (hK.sub (tys' := []) [] rfl) hE hS (va_free (wc := []) hD hS hA [] rfl) rfl hl.1 rfl (Nat.le_of_ble_eq_true rfl) d_FW_significand_22 ⟨Nat.le_of_ble_eq_true rfl, Nat.le_of_ble_eq_true rfl⟩) (fun r hr1 => ?_)
    obtain rfl : r = lN (fF b nw) := hr1
    refine nv_lor hx hb d_FW_significand_25 (by have := fP_pow nw; omega) (by have := fF_lt b nw; have := fP_pow nw; omega) ?_
    refine nv_top (y := lN (fM b nw)) (by first | exact fM_or0 (by omega) | exact fM_or1 (by omega)) ?_
    exact er_l hx hb hr hlocks d_FW_significand_26 (show lN (fM b nw) = lN (fM b nw) from rfl)
  · refine lv_lconst (v := lN 0) hx hb d_FW_significand_8 rfl ?_
    refine lv_goto (tgt := 18) hx hb d_FW_significand_9 (by decide) ?_
    refine lv_lstore_n (lv' := [(3, .long (lN (0))), (0, .long (lN (b))), (2, .int (bZ (nw = true)))]) hx hb d_FW_significand_18 rfl hl (by decide) rfl (fun ls hl => ?_)
    refine lv_lload_n hx hb d_FW_significand_19 rfl (lv_at hl 0 rfl) ?_
    refine lv_lload_n hx hb d_FW_significand_20 rfl (lv_at hl 1 rfl) ?_
    refine lv_iload_n hx hb d_FW_significand_21 rfl (lv_at hl 2 rfl) ?_
    refine kg_l (kr_S (As := [.long (lN (b)), .int (bZ (nw = true))]) (rest := [.long (lN (0))]) C0 (c_FW_fraction l D Z _ b nw (by assumption)) q_y_FW_fraction kw_15_ kw_14_ kw_3_ hd_y_FW_fraction rfl rfl ⟨Nat.le_of_ble_eq_true rfl, Nat.le_of_ble_eq_true rfl⟩ (hP.sub (ws' := []) [] rfl) (hD.sub (ws' := []) [] (by decide) rfl) (hK.sub (tys' := []) [] rfl) hE hS (va_free (wc := []) hD hS hA [] rfl) rfl hl.1 rfl (Nat.le_of_ble_eq_true rfl) d_FW_significand_22 ⟨Nat.le_of_ble_eq_true rfl, Nat.le_of_ble_eq_true rfl⟩) (fun r hr1 => ?_)
    obtain rfl : r = lN (fF b nw) := hr1
    refine nv_lor hx hb d_FW_significand_25 (by have := fP_pow nw; omega) (by have := fF_lt b nw; have := fP_pow nw; omega) ?_
    refine nv_top (y := lN (fM b nw)) (by first | exact fM_or0 (by omega) | exact fM_or1 (by omega)) ?_
    exact er_l hx hb hr hlocks d_FW_significand_26 (show lN (fM b nw) = lN (fM b nw) from rfl)
abbrev Qc_FW_binaryPower (D : va_G) (b : Nat) (nw : Bool) (A : Nat → Prop) : Array Value → State → Outcome → State → Prop := vp_Si (fun r : Int32 => r = iZ (fW b nw))
set_option maxHeartbeats 4000000 in
set_option maxRecDepth 100000 in
theorem c_FW_binaryPower (l : Launch) (D : va_G) (Z : Nat → Nat) (hz9 : Nat) (b : Nat) (nw : Bool) (hb9 : b < 18446744073709551616) : Met l y_FW_binaryPower (.code y_FW_binaryPower b_FW_binaryPower 3 (some .int) :: gT) ({ frames := 3, cells := 0, slots := 0, locals := 64 } : Room) (va_Pc [.long (lN (b)), .int (bZ (nw = true))] (cpre D Z [] [] hz9)) (Qc_FW_binaryPower D b nw (va_A [] hz9)) 0 0 (fun _ => False) := by
  refine met_go (Qf := Qc_FW_binaryPower D b nw) (ff := fun _ _ => False) (by decide) ?_
  intro p e s m below meth c A C0 hin hsz9 hA hE hK hP hD
  obtain ⟨hx, hb, hml, hown, hts, hr, hlocks⟩ := id C0
  have hS : va_S A s.heap s.heap [] := va_S.rf
  have hl := lv_entry [.long (lN (b)), .int (bZ (nw = true))] (n := 3) (Nat.le_of_ble_eq_true rfl)
  rw [lg_entry_eq]
  generalize (lg_sl [.long (lN (b)), .int (bZ (nw = true))] ++ List.replicate (3 - (lg_sl [.long (lN (b)), .int (bZ (nw = true))]).length) Slot.unset).toArray = ls at hl ⊢
  have hl : lv_has ls 3 [(0, .long (lN (b))), (2, .int (bZ (nw = true)))] := hl
  refine lv_lload_n hx hb d_FW_binaryPower_0 rfl (lv_at hl 0 rfl) ?_
  refine lv_iload_n hx hb d_FW_binaryPower_1 rfl (lv_at hl 1 rfl) ?_
  refine kg_i (kr_S (As := [.long (lN (b)), .int (bZ (nw = true))]) (rest := []) C0 (c_FW_exponent l D Z _ b nw (by assumption)) q_y_FW_exponent kw_13_ kw_12_ kw_3_ hd_y_FW_exponent rfl rfl ⟨Nat.le_of_ble_eq_true rfl, Nat.le_of_ble_eq_true rfl⟩ (hP.sub (ws' := []) [] rfl) (hD.sub (ws' := []) [] (by decide) rfl) (hK.sub (tys' := []) [] rfl) hE hS (va_free (wc := []) hD hS hA [] rfl) rfl hl.1 rfl (Nat.le_of_ble_eq_true rfl) d_FW_binaryPower_2 ⟨Nat.le_of_ble_eq_true rfl, Nat.le_of_ble_eq_true rfl⟩) (fun r hr1 => ?_)
  obtain rfl : r = iZ (((fE b nw : Nat) : Int)) := hr1
  refine lv_iconst (v := iZ (1)) hx hb d_FW_binaryPower_5 rfl ?_
  refine zv_mmax hx hb (hml.trans hl.1.symm) hown (hts _ kw_16_) (hts _ kw_17_) (hts _ kw_0_) (hts _ q_Lib_Math_max_name) (Nat.le_of_ble_eq_true rfl) (Nat.le_of_ble_eq_true rfl) (Nat.le_of_ble_eq_true rfl) (Nat.le_of_ble_eq_true rfl) (by have := fE_lt b nw; omega) (by omega) d_FW_binaryPower_6 ?_
  refine lv_iload_n hx hb d_FW_binaryPower_9 rfl (lv_at hl 1 rfl) ?_
  refine bv_if_eq (tgt := 19) hx hb d_FW_binaryPower_10 (by decide) (fun c10 => ?_) (fun c10 => ?_)
  · refine lv_sipush (v := iZ (1075)) hx hb d_FW_binaryPower_19 (by decide) ?_
    refine zv_isub hx hb d_FW_binaryPower_22 ?_
    exact er_i hx hb hr hlocks d_FW_binaryPower_23 (show iZ ((max ((fE b nw : Nat) : Int) 1) - 1075) = iZ (fW b nw) from by unfold fW fB; split <;> first | rfl | contradiction)
  · refine lv_sipush (v := iZ (150)) hx hb d_FW_binaryPower_13 (by decide) ?_
    refine lv_goto (tgt := 22) hx hb d_FW_binaryPower_16 (by decide) ?_
    refine zv_isub hx hb d_FW_binaryPower_22 ?_
    exact er_i hx hb hr hlocks d_FW_binaryPower_23 (show iZ ((max ((fE b nw : Nat) : Int) 1) - 150) = iZ (fW b nw) from by unfold fW fB; split <;> first | rfl | contradiction)
abbrev Qc_FW_isCloserBelow (D : va_G) (b : Nat) (nw : Bool) (A : Nat → Prop) : Array Value → State → Outcome → State → Prop := vp_Si (fun r : Int32 => r = bZ (fF b nw = 0 ∧ 1 < fE b nw))
set_option maxHeartbeats 4000000 in
set_option maxRecDepth 100000 in
theorem c_FW_isCloserBelow (l : Launch) (D : va_G) (Z : Nat → Nat) (hz9 : Nat) (b : Nat) (nw : Bool) (hb9 : b < 18446744073709551616) : Met l y_FW_isCloserBelow (.code y_FW_isCloserBelow b_FW_isCloserBelow 3 (some .boolean) :: gT) ({ frames := 3, cells := 0, slots := 0, locals := 64 } : Room) (va_Pc [.long (lN (b)), .int (bZ (nw = true))] (cpre D Z [] [] hz9)) (Qc_FW_isCloserBelow D b nw (va_A [] hz9)) 0 0 (fun _ => False) := by
  refine met_go (Qf := Qc_FW_isCloserBelow D b nw) (ff := fun _ _ => False) (by decide) ?_
  intro p e s m below meth c A C0 hin hsz9 hA hE hK hP hD
  obtain ⟨hx, hb, hml, hown, hts, hr, hlocks⟩ := id C0
  have hS : va_S A s.heap s.heap [] := va_S.rf
  have hl := lv_entry [.long (lN (b)), .int (bZ (nw = true))] (n := 3) (Nat.le_of_ble_eq_true rfl)
  rw [lg_entry_eq]
  generalize (lg_sl [.long (lN (b)), .int (bZ (nw = true))] ++ List.replicate (3 - (lg_sl [.long (lN (b)), .int (bZ (nw = true))]).length) Slot.unset).toArray = ls at hl ⊢
  have hl : lv_has ls 3 [(0, .long (lN (b))), (2, .int (bZ (nw = true)))] := hl
  refine lv_lload_n hx hb d_FW_isCloserBelow_0 rfl (lv_at hl 0 rfl) ?_
  refine lv_iload_n hx hb d_FW_isCloserBelow_1 rfl (lv_at hl 1 rfl) ?_
  refine kg_l (kr_S (As := [.long (lN (b)), .int (bZ (nw = true))]) (rest := []) C0 (c_FW_fraction l D Z _ b nw (by assumption)) q_y_FW_fraction kw_15_ kw_14_ kw_3_ hd_y_FW_fraction rfl rfl ⟨Nat.le_of_ble_eq_true rfl, Nat.le_of_ble_eq_true rfl⟩ (hP.sub (ws' := []) [] rfl) (hD.sub (ws' := []) [] (by decide) rfl) (hK.sub (tys' := []) [] rfl) hE hS (va_free (wc := []) hD hS hA [] rfl) rfl hl.1 rfl (Nat.le_of_ble_eq_true rfl) d_FW_isCloserBelow_2 ⟨Nat.le_of_ble_eq_true rfl, Nat.le_of_ble_eq_true rfl⟩) (fun r hr1 => ?_)
  obtain rfl : r = lN (fF b nw) := hr1
  refine lv_lconst (v := lN 0) hx hb d_FW_isCloserBelow_5 rfl ?_
  refine nv_lcmp_ne (tgt := 23) hx hb d_FW_isCloserBelow_6 d_FW_isCloserBelow_7 (by decide) (by have := fF_lt b nw; have := fP_pow nw; omega) (by decide) (fun c6 => ?_) (fun c6 => ?_)
  · refine lv_iconst (v := iZ (0)) hx hb d_FW_isCloserBelow_23 rfl ?_
    exact er_z hx hb hr hlocks (by decide) d_FW_isCloserBelow_24 (show iZ (0) = bZ (fF b nw = 0 ∧ 1 < fE b nw) from by first | exact (bZ_t (by omega)).symm | exact (bZ_f (by omega)).symm)
  · refine lv_lload_n hx hb d_FW_isCloserBelow_10 rfl (lv_at hl 0 rfl) ?_
    refine lv_iload_n hx hb d_FW_isCloserBelow_11 rfl (lv_at hl 1 rfl) ?_
    refine kg_i (kr_S (As := [.long (lN (b)), .int (bZ (nw = true))]) (rest := []) C0 (c_FW_exponent l D Z _ b nw (by assumption)) q_y_FW_exponent kw_13_ kw_12_ kw_3_ hd_y_FW_exponent rfl rfl ⟨Nat.le_of_ble_eq_true rfl, Nat.le_of_ble_eq_true rfl⟩ (hP.sub (ws' := []) [] rfl) (hD.sub (ws' := []) [] (by decide) rfl) (hK.sub (tys' := []) [] rfl) hE hS (va_free (wc := []) hD hS hA [] rfl) rfl hl.1 rfl (Nat.le_of_ble_eq_true rfl) d_FW_isCloserBelow_12 ⟨Nat.le_of_ble_eq_true rfl, Nat.le_of_ble_eq_true rfl⟩) (fun r hr1 => ?_)
    obtain rfl : r = iZ (((fE b nw : Nat) : Int)) := hr1
    refine lv_iconst (v := iZ (1)) hx hb d_FW_isCloserBelow_15 rfl ?_
    refine zv_icmp_le (tgt := 23) hx hb d_FW_isCloserBelow_16 (by decide) (by have := fE_lt b nw; omega) (by omega) (fun c16 => ?_) (fun c16 => ?_)
    · refine lv_iconst (v := iZ (0)) hx hb d_FW_isCloserBelow_23 rfl ?_
      exact er_z hx hb hr hlocks (by decide) d_FW_isCloserBelow_24 (show iZ (0) = bZ (fF b nw = 0 ∧ 1 < fE b nw) from by first | exact (bZ_t (by omega)).symm | exact (bZ_f (by omega)).symm)
    · refine lv_iconst (v := iZ (1)) hx hb d_FW_isCloserBelow_19 rfl ?_
      refine lv_goto (tgt := 24) hx hb d_FW_isCloserBelow_20 (by decide) ?_
      exact er_z hx hb hr hlocks (by decide) d_FW_isCloserBelow_24 (show iZ (1) = bZ (fF b nw = 0 ∧ 1 < fE b nw) from by first | exact (bZ_t (by omega)).symm | exact (bZ_f (by omega)).symm)
