theorem kw_410_ : Cond.instanceMethod y_FW_print ∈ gT := gT_in 186 (by decide +kernel) (by decide +kernel)
theorem kw_411_ : Cond.methodLink R_Law 7 y_FW_print ∈ gT := gT_in 185 (by decide +kernel) (by decide +kernel)
theorem kw_412_ : Cond.selects R_FW y_FW_print y_FW_print ∈ gT := gT_in 187 (by decide +kernel) (by decide +kernel)
theorem kw_413_ : Cond.classLink R_Law 13 "java/lang/IllegalArgumentException" ∈ gT := gT_in 184 (by decide +kernel) (by decide +kernel)
theorem kw_414_ : Cond.instanceMethod y_FW_hexadecimal ∈ gT := gT_in 492 (by decide +kernel) (by decide +kernel)
theorem kw_415_ : Cond.methodLink R_Law 15 y_FW_hexadecimal ∈ gT := gT_in 491 (by decide +kernel) (by decide +kernel)
theorem kw_416_ : Cond.selects R_FW y_FW_hexadecimal y_FW_hexadecimal ∈ gT := gT_in 493 (by decide +kernel) (by decide +kernel)
theorem kw_417_ : Cond.instanceMethod y_FW_fixed ∈ gT := gT_in 513 (by decide +kernel) (by decide +kernel)
theorem kw_418_ : Cond.methodLink R_Law 18 y_FW_fixed ∈ gT := gT_in 512 (by decide +kernel) (by decide +kernel)
theorem kw_419_ : Cond.selects R_FW y_FW_fixed y_FW_fixed ∈ gT := gT_in 514 (by decide +kernel) (by decide +kernel)
theorem kw_420_ : Cond.classLink R_Law 22 "java/lang/ArithmeticException" ∈ gT := gT_in 511 (by decide +kernel) (by decide +kernel)
theorem kw_421_ : Cond.instanceMethod y_FW_scientific ∈ gT := gT_in 571 (by decide +kernel) (by decide +kernel)
theorem kw_422_ : Cond.methodLink R_Law 24 y_FW_scientific ∈ gT := gT_in 570 (by decide +kernel) (by decide +kernel)
theorem kw_423_ : Cond.selects R_FW y_FW_scientific y_FW_scientific ∈ gT := gT_in 572 (by decide +kernel) (by decide +kernel)
theorem kw_424_ : Cond.instanceMethod y_FW_digits ∈ gT := gT_in 591 (by decide +kernel) (by decide +kernel)
theorem kw_425_ : Cond.methodLink R_Law 27 y_FW_digits ∈ gT := gT_in 590 (by decide +kernel) (by decide +kernel)
theorem kw_426_ : Cond.selects R_FW y_FW_digits y_FW_digits ∈ gT := gT_in 592 (by decide +kernel) (by decide +kernel)
theorem kw_427_ : Cond.instanceMethod y_FW_power ∈ gT := gT_in 602 (by decide +kernel) (by decide +kernel)
theorem kw_428_ : Cond.methodLink R_Law 31 y_FW_power ∈ gT := gT_in 601 (by decide +kernel) (by decide +kernel)
theorem kw_429_ : Cond.selects R_FW y_FW_power y_FW_power ∈ gT := gT_in 603 (by decide +kernel) (by decide +kernel)
theorem kw_430_ : Cond.instanceMethod y_FW_next ∈ gT := gT_in 609 (by decide +kernel) (by decide +kernel)
theorem kw_431_ : Cond.methodLink R_Law 34 y_FW_next ∈ gT := gT_in 608 (by decide +kernel) (by decide +kernel)
theorem kw_432_ : Cond.selects R_FW y_FW_next y_FW_next ∈ gT := gT_in 610 (by decide +kernel) (by decide +kernel)
theorem kw_433_ : Cond.instanceMethod y_FW_widened ∈ gT := gT_in 616 (by decide +kernel) (by decide +kernel)
theorem kw_434_ : Cond.methodLink R_Law 38 y_FW_widened ∈ gT := gT_in 615 (by decide +kernel) (by decide +kernel)
theorem kw_435_ : Cond.selects R_FW y_FW_widened y_FW_widened ∈ gT := gT_in 617 (by decide +kernel) (by decide +kernel)
set_option maxRecDepth 100000 in
theorem q_y_FW_print : Cond.code y_FW_print b_FW_print 4 (some .int) ∈ gT := gT_in 188 rfl rfl
set_option maxRecDepth 100000 in
theorem q_y_FW_hexadecimal : Cond.code y_FW_hexadecimal b_FW_hexadecimal 4 (some .int) ∈ gT := gT_in 494 rfl rfl
set_option maxRecDepth 100000 in
theorem q_y_FW_fixed : Cond.code y_FW_fixed b_FW_fixed 6 (some .int) ∈ gT := gT_in 515 rfl rfl
set_option maxRecDepth 100000 in
theorem q_y_FW_scientific : Cond.code y_FW_scientific b_FW_scientific 6 (some .int) ∈ gT := gT_in 573 rfl rfl
set_option maxRecDepth 100000 in
theorem q_y_FW_digits : Cond.code y_FW_digits b_FW_digits 4 (some .long) ∈ gT := gT_in 593 rfl rfl
set_option maxRecDepth 100000 in
theorem q_y_FW_power : Cond.code y_FW_power b_FW_power 4 (some .int) ∈ gT := gT_in 604 rfl rfl
set_option maxRecDepth 100000 in
theorem q_y_FW_next : Cond.code y_FW_next b_FW_next 8 (some .long) ∈ gT := gT_in 611 rfl rfl
set_option maxRecDepth 100000 in
theorem q_y_FW_widened : Cond.code y_FW_widened b_FW_widened 7 (some .long) ∈ gT := gT_in 618 rfl rfl
theorem hd_y_FW_print : y_FW_print.cls ≠ "java/lang/invoke/MethodHandle" ∧ y_FW_print.cls ≠ "java/lang/invoke/VarHandle" ∧ (parseMethodDescriptor y_FW_print.desc).map (fun d => d.parameters.length) = some 2 := by decide +kernel
theorem hd_y_FW_hexadecimal : y_FW_hexadecimal.cls ≠ "java/lang/invoke/MethodHandle" ∧ y_FW_hexadecimal.cls ≠ "java/lang/invoke/VarHandle" ∧ (parseMethodDescriptor y_FW_hexadecimal.desc).map (fun d => d.parameters.length) = some 2 := by decide +kernel
theorem hd_y_FW_fixed : y_FW_fixed.cls ≠ "java/lang/invoke/MethodHandle" ∧ y_FW_fixed.cls ≠ "java/lang/invoke/VarHandle" ∧ (parseMethodDescriptor y_FW_fixed.desc).map (fun d => d.parameters.length) = some 4 := by decide +kernel
theorem hd_y_FW_scientific : y_FW_scientific.cls ≠ "java/lang/invoke/MethodHandle" ∧ y_FW_scientific.cls ≠ "java/lang/invoke/VarHandle" ∧ (parseMethodDescriptor y_FW_scientific.desc).map (fun d => d.parameters.length) = some 4 := by decide +kernel
theorem hd_y_FW_digits : y_FW_digits.cls ≠ "java/lang/invoke/MethodHandle" ∧ y_FW_digits.cls ≠ "java/lang/invoke/VarHandle" ∧ (parseMethodDescriptor y_FW_digits.desc).map (fun d => d.parameters.length) = some 2 := by decide +kernel
theorem hd_y_FW_power : y_FW_power.cls ≠ "java/lang/invoke/MethodHandle" ∧ y_FW_power.cls ≠ "java/lang/invoke/VarHandle" ∧ (parseMethodDescriptor y_FW_power.desc).map (fun d => d.parameters.length) = some 2 := by decide +kernel
theorem hd_y_FW_next : y_FW_next.cls ≠ "java/lang/invoke/MethodHandle" ∧ y_FW_next.cls ≠ "java/lang/invoke/VarHandle" ∧ (parseMethodDescriptor y_FW_next.desc).map (fun d => d.parameters.length) = some 3 := by decide +kernel
theorem hd_y_FW_widened : y_FW_widened.cls ≠ "java/lang/invoke/MethodHandle" ∧ y_FW_widened.cls ≠ "java/lang/invoke/VarHandle" ∧ (parseMethodDescriptor y_FW_widened.desc).map (fun d => d.parameters.length) = some 1 := by decide +kernel
theorem d_Law_print_0 : decode b_Law_print 0 = .ok (.aload 4, 2) := by decide +kernel
theorem d_Law_print_2 : decode b_Law_print 2 = .ok (.iconst 0, 1) := by decide +kernel
theorem d_Law_print_3 : decode b_Law_print 3 = .ok (.aload_n 0, 1) := by decide +kernel
theorem d_Law_print_4 : decode b_Law_print 4 = .ok (.lload_n 1, 1) := by decide +kernel
theorem d_Law_print_5 : decode b_Law_print 5 = .ok (.iload_n 3, 1) := by decide +kernel
theorem d_Law_print_6 : decode b_Law_print 6 = .ok (.invokevirtual 7, 3) := by decide +kernel
theorem d_Law_print_9 : decode b_Law_print 9 = .ok (.i2l, 1) := by decide +kernel
theorem d_Law_print_10 : decode b_Law_print 10 = .ok (.lastore, 1) := by decide +kernel
theorem d_Law_print_11 : decode b_Law_print 11 = .ok (.goto 7, 3) := by decide +kernel
theorem d_Law_print_14 : decode b_Law_print 14 = .ok (.astore 5, 2) := by decide +kernel
theorem d_Law_print_16 : decode b_Law_print 16 = .ok (.iconst 1, 1) := by decide +kernel
theorem d_Law_print_17 : decode b_Law_print 17 = .ok (.ireturn, 1) := by decide +kernel
theorem d_Law_print_18 : decode b_Law_print 18 = .ok (.iconst 0, 1) := by decide +kernel
theorem d_Law_print_19 : decode b_Law_print 19 = .ok (.ireturn, 1) := by decide +kernel
theorem d_Law_hexadecimal_0 : decode b_Law_hexadecimal 0 = .ok (.aload 4, 2) := by decide +kernel
theorem d_Law_hexadecimal_2 : decode b_Law_hexadecimal 2 = .ok (.iconst 0, 1) := by decide +kernel
theorem d_Law_hexadecimal_3 : decode b_Law_hexadecimal 3 = .ok (.aload_n 0, 1) := by decide +kernel
theorem d_Law_hexadecimal_4 : decode b_Law_hexadecimal 4 = .ok (.lload_n 1, 1) := by decide +kernel
theorem d_Law_hexadecimal_5 : decode b_Law_hexadecimal 5 = .ok (.iload_n 3, 1) := by decide +kernel
theorem d_Law_hexadecimal_6 : decode b_Law_hexadecimal 6 = .ok (.invokevirtual 15, 3) := by decide +kernel
theorem d_Law_hexadecimal_9 : decode b_Law_hexadecimal 9 = .ok (.i2l, 1) := by decide +kernel
theorem d_Law_hexadecimal_10 : decode b_Law_hexadecimal 10 = .ok (.lastore, 1) := by decide +kernel
theorem d_Law_hexadecimal_11 : decode b_Law_hexadecimal 11 = .ok (.goto 7, 3) := by decide +kernel
theorem d_Law_hexadecimal_14 : decode b_Law_hexadecimal 14 = .ok (.astore 5, 2) := by decide +kernel
theorem d_Law_hexadecimal_16 : decode b_Law_hexadecimal 16 = .ok (.iconst 1, 1) := by decide +kernel
theorem d_Law_hexadecimal_17 : decode b_Law_hexadecimal 17 = .ok (.ireturn, 1) := by decide +kernel
theorem d_Law_hexadecimal_18 : decode b_Law_hexadecimal 18 = .ok (.iconst 0, 1) := by decide +kernel
theorem d_Law_hexadecimal_19 : decode b_Law_hexadecimal 19 = .ok (.ireturn, 1) := by decide +kernel
theorem d_Law_fixed_0 : decode b_Law_fixed 0 = .ok (.aload 6, 2) := by decide +kernel
theorem d_Law_fixed_2 : decode b_Law_fixed 2 = .ok (.iconst 0, 1) := by decide +kernel
theorem d_Law_fixed_3 : decode b_Law_fixed 3 = .ok (.aload_n 0, 1) := by decide +kernel
theorem d_Law_fixed_4 : decode b_Law_fixed 4 = .ok (.lload_n 1, 1) := by decide +kernel
theorem d_Law_fixed_5 : decode b_Law_fixed 5 = .ok (.iload_n 3, 1) := by decide +kernel
theorem d_Law_fixed_6 : decode b_Law_fixed 6 = .ok (.iload 4, 2) := by decide +kernel
theorem d_Law_fixed_8 : decode b_Law_fixed 8 = .ok (.iload 5, 2) := by decide +kernel
theorem d_Law_fixed_10 : decode b_Law_fixed 10 = .ok (.invokevirtual 18, 3) := by decide +kernel
theorem d_Law_fixed_13 : decode b_Law_fixed 13 = .ok (.i2l, 1) := by decide +kernel
theorem d_Law_fixed_14 : decode b_Law_fixed 14 = .ok (.lastore, 1) := by decide +kernel
theorem d_Law_fixed_15 : decode b_Law_fixed 15 = .ok (.goto 11, 3) := by decide +kernel
theorem d_Law_fixed_18 : decode b_Law_fixed 18 = .ok (.astore 7, 2) := by decide +kernel
theorem d_Law_fixed_20 : decode b_Law_fixed 20 = .ok (.iconst 1, 1) := by decide +kernel
theorem d_Law_fixed_21 : decode b_Law_fixed 21 = .ok (.ireturn, 1) := by decide +kernel
theorem d_Law_fixed_22 : decode b_Law_fixed 22 = .ok (.astore 7, 2) := by decide +kernel
theorem d_Law_fixed_24 : decode b_Law_fixed 24 = .ok (.iconst 2, 1) := by decide +kernel
theorem d_Law_fixed_25 : decode b_Law_fixed 25 = .ok (.ireturn, 1) := by decide +kernel
theorem d_Law_fixed_26 : decode b_Law_fixed 26 = .ok (.iconst 0, 1) := by decide +kernel
theorem d_Law_fixed_27 : decode b_Law_fixed 27 = .ok (.ireturn, 1) := by decide +kernel
theorem d_Law_scientific_0 : decode b_Law_scientific 0 = .ok (.aload 6, 2) := by decide +kernel
theorem d_Law_scientific_2 : decode b_Law_scientific 2 = .ok (.iconst 0, 1) := by decide +kernel
theorem d_Law_scientific_3 : decode b_Law_scientific 3 = .ok (.aload_n 0, 1) := by decide +kernel
theorem d_Law_scientific_4 : decode b_Law_scientific 4 = .ok (.lload_n 1, 1) := by decide +kernel
theorem d_Law_scientific_5 : decode b_Law_scientific 5 = .ok (.iload_n 3, 1) := by decide +kernel
theorem d_Law_scientific_6 : decode b_Law_scientific 6 = .ok (.iload 4, 2) := by decide +kernel
theorem d_Law_scientific_8 : decode b_Law_scientific 8 = .ok (.iload 5, 2) := by decide +kernel
theorem d_Law_scientific_10 : decode b_Law_scientific 10 = .ok (.invokevirtual 24, 3) := by decide +kernel
theorem d_Law_scientific_13 : decode b_Law_scientific 13 = .ok (.i2l, 1) := by decide +kernel
theorem d_Law_scientific_14 : decode b_Law_scientific 14 = .ok (.lastore, 1) := by decide +kernel
theorem d_Law_scientific_15 : decode b_Law_scientific 15 = .ok (.goto 11, 3) := by decide +kernel
theorem d_Law_scientific_18 : decode b_Law_scientific 18 = .ok (.astore 7, 2) := by decide +kernel
theorem d_Law_scientific_20 : decode b_Law_scientific 20 = .ok (.iconst 1, 1) := by decide +kernel
theorem d_Law_scientific_21 : decode b_Law_scientific 21 = .ok (.ireturn, 1) := by decide +kernel
theorem d_Law_scientific_22 : decode b_Law_scientific 22 = .ok (.astore 7, 2) := by decide +kernel
theorem d_Law_scientific_24 : decode b_Law_scientific 24 = .ok (.iconst 2, 1) := by decide +kernel
theorem d_Law_scientific_25 : decode b_Law_scientific 25 = .ok (.ireturn, 1) := by decide +kernel
theorem d_Law_scientific_26 : decode b_Law_scientific 26 = .ok (.iconst 0, 1) := by decide +kernel
theorem d_Law_scientific_27 : decode b_Law_scientific 27 = .ok (.ireturn, 1) := by decide +kernel
theorem d_Law_digits_0 : decode b_Law_digits 0 = .ok (.aload 4, 2) := by decide +kernel
theorem d_Law_digits_2 : decode b_Law_digits 2 = .ok (.iconst 0, 1) := by decide +kernel
theorem d_Law_digits_3 : decode b_Law_digits 3 = .ok (.aload_n 0, 1) := by decide +kernel
theorem d_Law_digits_4 : decode b_Law_digits 4 = .ok (.lload_n 1, 1) := by decide +kernel
theorem d_Law_digits_5 : decode b_Law_digits 5 = .ok (.iload_n 3, 1) := by decide +kernel
theorem d_Law_digits_6 : decode b_Law_digits 6 = .ok (.invokevirtual 27, 3) := by decide +kernel
theorem d_Law_digits_9 : decode b_Law_digits 9 = .ok (.lastore, 1) := by decide +kernel
theorem d_Law_digits_10 : decode b_Law_digits 10 = .ok (.goto 11, 3) := by decide +kernel
theorem d_Law_digits_13 : decode b_Law_digits 13 = .ok (.astore 5, 2) := by decide +kernel
theorem d_Law_digits_15 : decode b_Law_digits 15 = .ok (.iconst 1, 1) := by decide +kernel
theorem d_Law_digits_16 : decode b_Law_digits 16 = .ok (.ireturn, 1) := by decide +kernel
theorem d_Law_digits_17 : decode b_Law_digits 17 = .ok (.astore 5, 2) := by decide +kernel
theorem d_Law_digits_19 : decode b_Law_digits 19 = .ok (.iconst 2, 1) := by decide +kernel
theorem d_Law_digits_20 : decode b_Law_digits 20 = .ok (.ireturn, 1) := by decide +kernel
theorem d_Law_digits_21 : decode b_Law_digits 21 = .ok (.iconst 0, 1) := by decide +kernel
theorem d_Law_digits_22 : decode b_Law_digits 22 = .ok (.ireturn, 1) := by decide +kernel
theorem d_Law_power_0 : decode b_Law_power 0 = .ok (.aload 4, 2) := by decide +kernel
theorem d_Law_power_2 : decode b_Law_power 2 = .ok (.iconst 0, 1) := by decide +kernel
theorem d_Law_power_3 : decode b_Law_power 3 = .ok (.aload_n 0, 1) := by decide +kernel
theorem d_Law_power_4 : decode b_Law_power 4 = .ok (.lload_n 1, 1) := by decide +kernel
theorem d_Law_power_5 : decode b_Law_power 5 = .ok (.iload_n 3, 1) := by decide +kernel
theorem d_Law_power_6 : decode b_Law_power 6 = .ok (.invokevirtual 31, 3) := by decide +kernel
theorem d_Law_power_9 : decode b_Law_power 9 = .ok (.i2l, 1) := by decide +kernel
theorem d_Law_power_10 : decode b_Law_power 10 = .ok (.lastore, 1) := by decide +kernel
theorem d_Law_power_11 : decode b_Law_power 11 = .ok (.goto 11, 3) := by decide +kernel
theorem d_Law_power_14 : decode b_Law_power 14 = .ok (.astore 5, 2) := by decide +kernel
theorem d_Law_power_16 : decode b_Law_power 16 = .ok (.iconst 1, 1) := by decide +kernel
theorem d_Law_power_17 : decode b_Law_power 17 = .ok (.ireturn, 1) := by decide +kernel
theorem d_Law_power_18 : decode b_Law_power 18 = .ok (.astore 5, 2) := by decide +kernel
theorem d_Law_power_20 : decode b_Law_power 20 = .ok (.iconst 2, 1) := by decide +kernel
theorem d_Law_power_21 : decode b_Law_power 21 = .ok (.ireturn, 1) := by decide +kernel
theorem d_Law_power_22 : decode b_Law_power 22 = .ok (.iconst 0, 1) := by decide +kernel
theorem d_Law_power_23 : decode b_Law_power 23 = .ok (.ireturn, 1) := by decide +kernel
theorem d_Law_next_0 : decode b_Law_next 0 = .ok (.aload 5, 2) := by decide +kernel
theorem d_Law_next_2 : decode b_Law_next 2 = .ok (.iconst 0, 1) := by decide +kernel
theorem d_Law_next_3 : decode b_Law_next 3 = .ok (.aload_n 0, 1) := by decide +kernel
theorem d_Law_next_4 : decode b_Law_next 4 = .ok (.lload_n 1, 1) := by decide +kernel
theorem d_Law_next_5 : decode b_Law_next 5 = .ok (.iload_n 3, 1) := by decide +kernel
theorem d_Law_next_6 : decode b_Law_next 6 = .ok (.iload 4, 2) := by decide +kernel
theorem d_Law_next_8 : decode b_Law_next 8 = .ok (.invokevirtual 34, 3) := by decide +kernel
theorem d_Law_next_11 : decode b_Law_next 11 = .ok (.lastore, 1) := by decide +kernel
theorem d_Law_next_12 : decode b_Law_next 12 = .ok (.goto 7, 3) := by decide +kernel
theorem d_Law_next_15 : decode b_Law_next 15 = .ok (.astore 6, 2) := by decide +kernel
theorem d_Law_next_17 : decode b_Law_next 17 = .ok (.iconst 1, 1) := by decide +kernel
theorem d_Law_next_18 : decode b_Law_next 18 = .ok (.ireturn, 1) := by decide +kernel
theorem d_Law_next_19 : decode b_Law_next 19 = .ok (.iconst 0, 1) := by decide +kernel
theorem d_Law_next_20 : decode b_Law_next 20 = .ok (.ireturn, 1) := by decide +kernel
theorem d_Law_widened_0 : decode b_Law_widened 0 = .ok (.aload_n 3, 1) := by decide +kernel
theorem d_Law_widened_1 : decode b_Law_widened 1 = .ok (.iconst 0, 1) := by decide +kernel
theorem d_Law_widened_2 : decode b_Law_widened 2 = .ok (.aload_n 0, 1) := by decide +kernel
theorem d_Law_widened_3 : decode b_Law_widened 3 = .ok (.lload_n 1, 1) := by decide +kernel
theorem d_Law_widened_4 : decode b_Law_widened 4 = .ok (.invokevirtual 38, 3) := by decide +kernel
theorem d_Law_widened_7 : decode b_Law_widened 7 = .ok (.lastore, 1) := by decide +kernel
theorem d_Law_widened_8 : decode b_Law_widened 8 = .ok (.goto 7, 3) := by decide +kernel
theorem d_Law_widened_11 : decode b_Law_widened 11 = .ok (.astore 4, 2) := by decide +kernel
theorem d_Law_widened_13 : decode b_Law_widened 13 = .ok (.iconst 1, 1) := by decide +kernel
theorem d_Law_widened_14 : decode b_Law_widened 14 = .ok (.ireturn, 1) := by decide +kernel
theorem d_Law_widened_15 : decode b_Law_widened 15 = .ok (.iconst 0, 1) := by decide +kernel
theorem d_Law_widened_16 : decode b_Law_widened 16 = .ok (.ireturn, 1) := by decide +kernel
abbrev Qc_Law_print_x (D : va_G) (h0 : Nat) (qsh : Nat) (qex : Nat) (qso : Nat) (qo : Nat) (kA : ClassId) (fo : Nat → Int64) (b : Nat) (nw : Bool) (A : Nat → Prop) : Array Value → State → Outcome → State → Prop := va_Qi (fun (r : Int32) (u : Unit) => r = iZ (1)) (fun (u : Unit) t9 => cpost D A [(h0, .inr (0, [.ref qsh, .ref qex, .ref qso])), (qo, .inl (kA, 1, .inr (.inl fo)))] [(kA, .long)] t9) A
set_option maxHeartbeats 4000000 in
set_option maxRecDepth 100000 in
theorem c_Law_print_x (l : Launch) (hst : l.stackTraces = false) (D : va_G) (Z : Nat → Nat) (hz9 : Nat) (h0 : Nat) (qsh : Nat) (qex : Nat) (qso : Nat) (qo : Nat) (kA : ClassId) (fo : Nat → Int64) (b : Nat) (nw : Bool) (hb9 : b < 18446744073709551616) (hwr : nw = true ∧ ¬ b < 4294967296) : Met l y_Law_print (.codeWith y_Law_print b_Law_print 6 (some .int) [(0, 11, 14, 13)] :: gT) ({ frames := 8, cells := 1, slots := 6, locals := 127 } : Room) (va_Pc [.ref h0, .long (lN (b)), .int (bZ (nw = true)), .ref qo] (cpre D Z [(h0, .inr (0, [.ref qsh, .ref qex, .ref qso])), (qo, .inl (kA, 1, .inr (.inl fo)))] [(kA, .long)] hz9)) (Qc_Law_print_x D h0 qsh qex qso qo kA fo b nw (va_A [(h0, .inr (0, [.ref qsh, .ref qex, .ref qso])), (qo, .inl (kA, 1, .inr (.inl fo)))] hz9)) 1 6 (va_A [(h0, .inr (0, [.ref qsh, .ref qex, .ref qso])), (qo, .inl (kA, 1, .inr (.inl fo)))] hz9) := by
  refine met_goH (Qf := Qc_Law_print_x D h0 qsh qex qso qo kA fo b nw) (ff := fun A => A) (by decide) ?_
  intro p e s m below meth c A C0 hTab hsz9 hA hE hK hP hD
  obtain ⟨hx, hb, hml, hown, hts, hr, hlocks⟩ := id C0
  have hS : va_S A s.heap s.heap [] := va_S.rf
  have hl := lv_entry [.ref h0, .long (lN (b)), .int (bZ (nw = true)), .ref qo] (n := 6) (Nat.le_of_ble_eq_true rfl)
  rw [lg_entry_eq]
  generalize (lg_sl [.ref h0, .long (lN (b)), .int (bZ (nw = true)), .ref qo] ++ List.replicate (6 - (lg_sl [.ref h0, .long (lN (b)), .int (bZ (nw = true)), .ref qo]).length) Slot.unset).toArray = ls at hl ⊢
  have hl : lv_has ls 6 [(0, .ref h0), (1, .long (lN (b))), (3, .int (bZ (nw = true))), (4, .ref qo)] := hl
  refine lv_aload hx hb d_Law_print_0 (lv_at hl 3 rfl) ?_
  refine lv_iconst (v := iZ (0)) hx hb d_Law_print_2 rfl ?_
  refine lv_aload_n hx hb d_Law_print_3 rfl (lv_at hl 0 rfl) ?_
  refine lv_lload_n hx hb d_Law_print_4 rfl (lv_at hl 1 rfl) ?_
  refine lv_iload_n hx hb d_Law_print_5 rfl (lv_at hl 2 rfl) ?_
  refine kx_i (ws := [(h0, .inr (0, [.ref qsh, .ref qex, .ref qso])), (qo, .inl (kA, 1, .inr (.inl fo)))]) (kx_V (C0 := R_FW) (ci := 0) (i0 := 0) (As := [.long (lN (b)), .int (bZ (nw = true))]) (rest := [.int (iZ (0)), .ref qo]) C0 (c_FW_print_x l hst D Z _ h0 qsh qex qso b nw (by assumption) (by assumption)) q_y_FW_print kw_411_ kw_410_ kw_412_ kw_3_ hd_y_FW_print rfl rfl ⟨Nat.le_of_ble_eq_true rfl, Nat.le_of_ble_eq_true rfl⟩ (hP.sub (ws' := [(h0, .inr (0, [.ref qsh, .ref qex, .ref qso]))]) [0] rfl) (hD.sub (ws' := [(h0, .inr (0, [.ref qsh, .ref qex, .ref qso]))]) [0] (by decide) rfl) (hK.sub (tys' := []) [] rfl) hE hS (va_free (wc := [(h0, .inr (0, [.ref qsh, .ref qex, .ref qso]))]) hD hS hA [0] rfl) rfl rfl rfl hl.1 rfl (Nat.le_of_ble_eq_true rfl) d_Law_print_6 ⟨Nat.le_of_ble_eq_true rfl, Nat.le_of_ble_eq_true rfl⟩) hP hS (fun ce q9 H locs hP hS hce hcv hcl => ?_)
  refine cat_0 (hh := [(0, 11, 14, 13)]) (x1 := (0, 11, 14, 13)) (suf := []) C0 hTab rfl (by decide) (by decide) kw_413_ (nw_at hE _ (List.mem_of_getElem? (i := 10) rfl)) hce hcv hcl ?_
  refine lv_astore (lv' := [(5, .ref q9), (0, .ref h0), (1, .long (lN (b))), (3, .int (bZ (nw = true))), (4, .ref qo)]) hx hb d_Law_print_14 hl (by decide) rfl (fun ls hl => ?_)
  refine lv_iconst (v := iZ (1)) hx hb d_Law_print_16 rfl ?_
  exact ew_i () hx hb hr hlocks d_Law_print_17 (show iZ (1) = iZ (1) from rfl) (hP.sub (ws' := [(h0, .inr (0, [.ref qsh, .ref qex, .ref qso])), (qo, .inl (kA, 1, .inr (.inl fo)))]) [0, 1] rfl) (hD.sub (ws' := [(h0, .inr (0, [.ref qsh, .ref qex, .ref qso])), (qo, .inl (kA, 1, .inr (.inl fo)))]) [0, 1] (by decide) rfl) (hK.sub (tys' := [(kA, .long)]) [0] rfl) hS (Nat.le_of_ble_eq_true rfl) (Nat.le_of_ble_eq_true rfl)
abbrev Qc_Law_hexadecimal_x (D : va_G) (h0 : Nat) (qsh : Nat) (qex : Nat) (qso : Nat) (qo : Nat) (kA : ClassId) (fo : Nat → Int64) (b : Nat) (nw : Bool) (A : Nat → Prop) : Array Value → State → Outcome → State → Prop := va_Qi (fun (r : Int32) (u : Unit) => r = iZ (1)) (fun (u : Unit) t9 => cpost D A [(h0, .inr (0, [.ref qsh, .ref qex, .ref qso])), (qo, .inl (kA, 1, .inr (.inl fo)))] [(kA, .long)] t9) A
set_option maxHeartbeats 4000000 in
set_option maxRecDepth 100000 in
theorem c_Law_hexadecimal_x (l : Launch) (hst : l.stackTraces = false) (D : va_G) (Z : Nat → Nat) (hz9 : Nat) (h0 : Nat) (qsh : Nat) (qex : Nat) (qso : Nat) (qo : Nat) (kA : ClassId) (fo : Nat → Int64) (b : Nat) (nw : Bool) (hb9 : b < 18446744073709551616) (hwr : nw = true ∧ ¬ b < 4294967296) : Met l y_Law_hexadecimal (.codeWith y_Law_hexadecimal b_Law_hexadecimal 6 (some .int) [(0, 11, 14, 13)] :: gT) ({ frames := 8, cells := 1, slots := 6, locals := 127 } : Room) (va_Pc [.ref h0, .long (lN (b)), .int (bZ (nw = true)), .ref qo] (cpre D Z [(h0, .inr (0, [.ref qsh, .ref qex, .ref qso])), (qo, .inl (kA, 1, .inr (.inl fo)))] [(kA, .long)] hz9)) (Qc_Law_hexadecimal_x D h0 qsh qex qso qo kA fo b nw (va_A [(h0, .inr (0, [.ref qsh, .ref qex, .ref qso])), (qo, .inl (kA, 1, .inr (.inl fo)))] hz9)) 1 6 (va_A [(h0, .inr (0, [.ref qsh, .ref qex, .ref qso])), (qo, .inl (kA, 1, .inr (.inl fo)))] hz9) := by
  refine met_goH (Qf := Qc_Law_hexadecimal_x D h0 qsh qex qso qo kA fo b nw) (ff := fun A => A) (by decide) ?_
  intro p e s m below meth c A C0 hTab hsz9 hA hE hK hP hD
  obtain ⟨hx, hb, hml, hown, hts, hr, hlocks⟩ := id C0
  have hS : va_S A s.heap s.heap [] := va_S.rf
  have hl := lv_entry [.ref h0, .long (lN (b)), .int (bZ (nw = true)), .ref qo] (n := 6) (Nat.le_of_ble_eq_true rfl)
  rw [lg_entry_eq]
  generalize (lg_sl [.ref h0, .long (lN (b)), .int (bZ (nw = true)), .ref qo] ++ List.replicate (6 - (lg_sl [.ref h0, .long (lN (b)), .int (bZ (nw = true)), .ref qo]).length) Slot.unset).toArray = ls at hl ⊢
  have hl : lv_has ls 6 [(0, .ref h0), (1, .long (lN (b))), (3, .int (bZ (nw = true))), (4, .ref qo)] := hl
  refine lv_aload hx hb d_Law_hexadecimal_0 (lv_at hl 3 rfl) ?_
  refine lv_iconst (v := iZ (0)) hx hb d_Law_hexadecimal_2 rfl ?_
  refine lv_aload_n hx hb d_Law_hexadecimal_3 rfl (lv_at hl 0 rfl) ?_
  refine lv_lload_n hx hb d_Law_hexadecimal_4 rfl (lv_at hl 1 rfl) ?_
  refine lv_iload_n hx hb d_Law_hexadecimal_5 rfl (lv_at hl 2 rfl) ?_
  refine kx_i (ws := [(h0, .inr (0, [.ref qsh, .ref qex, .ref qso])), (qo, .inl (kA, 1, .inr (.inl fo)))]) (kx_V (C0 := R_FW) (ci := 0) (i0 := 0) (As := [.long (lN (b)), .int (bZ (nw = true))]) (rest := [.int (iZ (0)), .ref qo]) C0 (c_FW_hexadecimal_x l hst D Z _ h0 qsh qex qso b nw (by assumption) (by assumption)) q_y_FW_hexadecimal kw_415_ kw_414_ kw_416_ kw_3_ hd_y_FW_hexadecimal rfl rfl ⟨Nat.le_of_ble_eq_true rfl, Nat.le_of_ble_eq_true rfl⟩ (hP.sub (ws' := [(h0, .inr (0, [.ref qsh, .ref qex, .ref qso]))]) [0] rfl) (hD.sub (ws' := [(h0, .inr (0, [.ref qsh, .ref qex, .ref qso]))]) [0] (by decide) rfl) (hK.sub (tys' := []) [] rfl) hE hS (va_free (wc := [(h0, .inr (0, [.ref qsh, .ref qex, .ref qso]))]) hD hS hA [0] rfl) rfl rfl rfl hl.1 rfl (Nat.le_of_ble_eq_true rfl) d_Law_hexadecimal_6 ⟨Nat.le_of_ble_eq_true rfl, Nat.le_of_ble_eq_true rfl⟩) hP hS (fun ce q9 H locs hP hS hce hcv hcl => ?_)
  refine cat_0 (hh := [(0, 11, 14, 13)]) (x1 := (0, 11, 14, 13)) (suf := []) C0 hTab rfl (by decide) (by decide) kw_413_ (nw_at hE _ (List.mem_of_getElem? (i := 10) rfl)) hce hcv hcl ?_
  refine lv_astore (lv' := [(5, .ref q9), (0, .ref h0), (1, .long (lN (b))), (3, .int (bZ (nw = true))), (4, .ref qo)]) hx hb d_Law_hexadecimal_14 hl (by decide) rfl (fun ls hl => ?_)
  refine lv_iconst (v := iZ (1)) hx hb d_Law_hexadecimal_16 rfl ?_
  exact ew_i () hx hb hr hlocks d_Law_hexadecimal_17 (show iZ (1) = iZ (1) from rfl) (hP.sub (ws' := [(h0, .inr (0, [.ref qsh, .ref qex, .ref qso])), (qo, .inl (kA, 1, .inr (.inl fo)))]) [0, 1] rfl) (hD.sub (ws' := [(h0, .inr (0, [.ref qsh, .ref qex, .ref qso])), (qo, .inl (kA, 1, .inr (.inl fo)))]) [0, 1] (by decide) rfl) (hK.sub (tys' := [(kA, .long)]) [0] rfl) hS (Nat.le_of_ble_eq_true rfl) (Nat.le_of_ble_eq_true rfl)
abbrev Qc_Law_fixed_x1 (D : va_G) (h0 : Nat) (qsh : Nat) (qex : Nat) (qso : Nat) (qo : Nat) (kA : ClassId) (fo : Nat → Int64) (b : Nat) (nw : Bool) (z1 : Int) (z2 : Int) (A : Nat → Prop) : Array Value → State → Outcome → State → Prop := va_Qi (fun (r : Int32) (u : Unit) => r = iZ (1)) (fun (u : Unit) t9 => cpost D A [(h0, .inr (0, [.ref qsh, .ref qex, .ref qso])), (qo, .inl (kA, 1, .inr (.inl fo)))] [(kA, .long)] t9) A
set_option maxHeartbeats 4000000 in
set_option maxRecDepth 100000 in
theorem c_Law_fixed_x1 (l : Launch) (hst : l.stackTraces = false) (D : va_G) (Z : Nat → Nat) (hz9 : Nat) (h0 : Nat) (qsh : Nat) (qex : Nat) (qso : Nat) (qo : Nat) (kA : ClassId) (fo : Nat → Int64) (b : Nat) (nw : Bool) (z1 : Int) (z2 : Int) (hb9 : b < 18446744073709551616) (hwr : nw = true ∧ ¬ b < 4294967296) (hz1 : -2147483648 ≤ z1 ∧ z1 < 2147483648) (hz2 : -2147483648 ≤ z2 ∧ z2 < 2147483648) : Met l y_Law_fixed (.codeWith y_Law_fixed b_Law_fixed 8 (some .int) [(0, 15, 18, 13), (0, 15, 22, 22)] :: gT) ({ frames := 8, cells := 1, slots := 6, locals := 129 } : Room) (va_Pc [.ref h0, .long (lN (b)), .int (bZ (nw = true)), .int (iZ (z1)), .int (iZ (z2)), .ref qo] (cpre D Z [(h0, .inr (0, [.ref qsh, .ref qex, .ref qso])), (qo, .inl (kA, 1, .inr (.inl fo)))] [(kA, .long)] hz9)) (Qc_Law_fixed_x1 D h0 qsh qex qso qo kA fo b nw z1 z2 (va_A [(h0, .inr (0, [.ref qsh, .ref qex, .ref qso])), (qo, .inl (kA, 1, .inr (.inl fo)))] hz9)) 1 6 (va_A [(h0, .inr (0, [.ref qsh, .ref qex, .ref qso])), (qo, .inl (kA, 1, .inr (.inl fo)))] hz9) := by
  refine met_goH (Qf := Qc_Law_fixed_x1 D h0 qsh qex qso qo kA fo b nw z1 z2) (ff := fun A => A) (by decide) ?_
  intro p e s m below meth c A C0 hTab hsz9 hA hE hK hP hD
  obtain ⟨hx, hb, hml, hown, hts, hr, hlocks⟩ := id C0
  have hS : va_S A s.heap s.heap [] := va_S.rf
  have hl := lv_entry [.ref h0, .long (lN (b)), .int (bZ (nw = true)), .int (iZ (z1)), .int (iZ (z2)), .ref qo] (n := 8) (Nat.le_of_ble_eq_true rfl)
  rw [lg_entry_eq]
  generalize (lg_sl [.ref h0, .long (lN (b)), .int (bZ (nw = true)), .int (iZ (z1)), .int (iZ (z2)), .ref qo] ++ List.replicate (8 - (lg_sl [.ref h0, .long (lN (b)), .int (bZ (nw = true)), .int (iZ (z1)), .int (iZ (z2)), .ref qo]).length) Slot.unset).toArray = ls at hl ⊢
  have hl : lv_has ls 8 [(0, .ref h0), (1, .long (lN (b))), (3, .int (bZ (nw = true))), (4, .int (iZ (z1))), (5, .int (iZ (z2))), (6, .ref qo)] := hl
  refine lv_aload hx hb d_Law_fixed_0 (lv_at hl 5 rfl) ?_
  refine lv_iconst (v := iZ (0)) hx hb d_Law_fixed_2 rfl ?_
  refine lv_aload_n hx hb d_Law_fixed_3 rfl (lv_at hl 0 rfl) ?_
  refine lv_lload_n hx hb d_Law_fixed_4 rfl (lv_at hl 1 rfl) ?_
  refine lv_iload_n hx hb d_Law_fixed_5 rfl (lv_at hl 2 rfl) ?_
  refine lv_iload hx hb d_Law_fixed_6 (lv_at hl 3 rfl) ?_
  refine lv_iload hx hb d_Law_fixed_8 (lv_at hl 4 rfl) ?_
  refine kx_i (ws := [(h0, .inr (0, [.ref qsh, .ref qex, .ref qso])), (qo, .inl (kA, 1, .inr (.inl fo)))]) (kx_V (C0 := R_FW) (ci := 0) (i0 := 0) (As := [.long (lN (b)), .int (bZ (nw = true)), .int (iZ (z1)), .int (iZ (z2))]) (rest := [.int (iZ (0)), .ref qo]) C0 (c_FW_fixed_x1 l hst D Z _ h0 qsh qex qso b nw z1 z2 (by assumption) (by assumption) (by assumption) (by assumption)) q_y_FW_fixed kw_418_ kw_417_ kw_419_ kw_3_ hd_y_FW_fixed rfl rfl ⟨Nat.le_of_ble_eq_true rfl, Nat.le_of_ble_eq_true rfl⟩ (hP.sub (ws' := [(h0, .inr (0, [.ref qsh, .ref qex, .ref qso]))]) [0] rfl) (hD.sub (ws' := [(h0, .inr (0, [.ref qsh, .ref qex, .ref qso]))]) [0] (by decide) rfl) (hK.sub (tys' := []) [] rfl) hE hS (va_free (wc := [(h0, .inr (0, [.ref qsh, .ref qex, .ref qso]))]) hD hS hA [0] rfl) rfl rfl rfl hl.1 rfl (Nat.le_of_ble_eq_true rfl) d_Law_fixed_10 ⟨Nat.le_of_ble_eq_true rfl, Nat.le_of_ble_eq_true rfl⟩) hP hS (fun ce q9 H locs hP hS hce hcv hcl => ?_)
  refine cat_0 (hh := [(0, 15, 18, 13), (0, 15, 22, 22)]) (x1 := (0, 15, 18, 13)) (suf := [(0, 15, 22, 22)]) C0 hTab rfl (by decide) (by decide) kw_413_ (nw_at hE _ (List.mem_of_getElem? (i := 10) rfl)) hce hcv hcl ?_
  refine lv_astore (lv' := [(7, .ref q9), (0, .ref h0), (1, .long (lN (b))), (3, .int (bZ (nw = true))), (4, .int (iZ (z1))), (5, .int (iZ (z2))), (6, .ref qo)]) hx hb d_Law_fixed_18 hl (by decide) rfl (fun ls hl => ?_)
  refine lv_iconst (v := iZ (1)) hx hb d_Law_fixed_20 rfl ?_
  exact ew_i () hx hb hr hlocks d_Law_fixed_21 (show iZ (1) = iZ (1) from rfl) (hP.sub (ws' := [(h0, .inr (0, [.ref qsh, .ref qex, .ref qso])), (qo, .inl (kA, 1, .inr (.inl fo)))]) [0, 1] rfl) (hD.sub (ws' := [(h0, .inr (0, [.ref qsh, .ref qex, .ref qso])), (qo, .inl (kA, 1, .inr (.inl fo)))]) [0, 1] (by decide) rfl) (hK.sub (tys' := [(kA, .long)]) [0] rfl) hS (Nat.le_of_ble_eq_true rfl) (Nat.le_of_ble_eq_true rfl)
abbrev Qc_Law_fixed_x2 (D : va_G) (h0 : Nat) (qsh : Nat) (qex : Nat) (qso : Nat) (qo : Nat) (kA : ClassId) (fo : Nat → Int64) (b : Nat) (nw : Bool) (z1 : Int) (z2 : Int) (A : Nat → Prop) : Array Value → State → Outcome → State → Prop := va_Qi (fun (r : Int32) (u : Unit) => r = iZ (1)) (fun (u : Unit) t9 => cpost D A [(h0, .inr (0, [.ref qsh, .ref qex, .ref qso])), (qo, .inl (kA, 1, .inr (.inl fo)))] [(kA, .long)] t9) A
set_option maxHeartbeats 4000000 in
set_option maxRecDepth 100000 in
theorem c_Law_fixed_x2 (l : Launch) (hst : l.stackTraces = false) (D : va_G) (Z : Nat → Nat) (hz9 : Nat) (h0 : Nat) (qsh : Nat) (qex : Nat) (qso : Nat) (qo : Nat) (kA : ClassId) (fo : Nat → Int64) (b : Nat) (nw : Bool) (z1 : Int) (z2 : Int) (hb9 : b < 18446744073709551616) (hok : nw = true → b < 4294967296) (hz1 : -2147483648 ≤ z1 ∧ z1 < 2147483648) (hz2 : -2147483648 ≤ z2 ∧ z2 < 2147483648) (hno : z1 < 0 ∨ 1100 < z1) : Met l y_Law_fixed (.codeWith y_Law_fixed b_Law_fixed 8 (some .int) [(0, 15, 18, 13), (0, 15, 22, 22)] :: gT) ({ frames := 8, cells := 1, slots := 6, locals := 129 } : Room) (va_Pc [.ref h0, .long (lN (b)), .int (bZ (nw = true)), .int (iZ (z1)), .int (iZ (z2)), .ref qo] (cpre D Z [(h0, .inr (0, [.ref qsh, .ref qex, .ref qso])), (qo, .inl (kA, 1, .inr (.inl fo)))] [(kA, .long)] hz9)) (Qc_Law_fixed_x2 D h0 qsh qex qso qo kA fo b nw z1 z2 (va_A [(h0, .inr (0, [.ref qsh, .ref qex, .ref qso])), (qo, .inl (kA, 1, .inr (.inl fo)))] hz9)) 1 6 (va_A [(h0, .inr (0, [.ref qsh, .ref qex, .ref qso])), (qo, .inl (kA, 1, .inr (.inl fo)))] hz9) := by
  refine met_goH (Qf := Qc_Law_fixed_x2 D h0 qsh qex qso qo kA fo b nw z1 z2) (ff := fun A => A) (by decide) ?_
  intro p e s m below meth c A C0 hTab hsz9 hA hE hK hP hD
  obtain ⟨hx, hb, hml, hown, hts, hr, hlocks⟩ := id C0
  have hS : va_S A s.heap s.heap [] := va_S.rf
  have hl := lv_entry [.ref h0, .long (lN (b)), .int (bZ (nw = true)), .int (iZ (z1)), .int (iZ (z2)), .ref qo] (n := 8) (Nat.le_of_ble_eq_true rfl)
  rw [lg_entry_eq]
  generalize (lg_sl [.ref h0, .long (lN (b)), .int (bZ (nw = true)), .int (iZ (z1)), .int (iZ (z2)), .ref qo] ++ List.replicate (8 - (lg_sl [.ref h0, .long (lN (b)), .int (bZ (nw = true)), .int (iZ (z1)), .int (iZ (z2)), .ref qo]).length) Slot.unset).toArray = ls at hl ⊢
  have hl : lv_has ls 8 [(0, .ref h0), (1, .long (lN (b))), (3, .int (bZ (nw = true))), (4, .int (iZ (z1))), (5, .int (iZ (z2))), (6, .ref qo)] := hl
  refine lv_aload hx hb d_Law_fixed_0 (lv_at hl 5 rfl) ?_
  refine lv_iconst (v := iZ (0)) hx hb d_Law_fixed_2 rfl ?_
  refine lv_aload_n hx hb d_Law_fixed_3 rfl (lv_at hl 0 rfl) ?_
  refine lv_lload_n hx hb d_Law_fixed_4 rfl (lv_at hl 1 rfl) ?_
  refine lv_iload_n hx hb d_Law_fixed_5 rfl (lv_at hl 2 rfl) ?_
  refine lv_iload hx hb d_Law_fixed_6 (lv_at hl 3 rfl) ?_
  refine lv_iload hx hb d_Law_fixed_8 (lv_at hl 4 rfl) ?_
  refine kx_i (ws := [(h0, .inr (0, [.ref qsh, .ref qex, .ref qso])), (qo, .inl (kA, 1, .inr (.inl fo)))]) (kx_V (C0 := R_FW) (ci := 0) (i0 := 0) (As := [.long (lN (b)), .int (bZ (nw = true)), .int (iZ (z1)), .int (iZ (z2))]) (rest := [.int (iZ (0)), .ref qo]) C0 (c_FW_fixed_x2 l hst D Z _ h0 qsh qex qso b nw z1 z2 (by assumption) (by assumption) (by assumption) (by assumption) (by assumption)) q_y_FW_fixed kw_418_ kw_417_ kw_419_ kw_3_ hd_y_FW_fixed rfl rfl ⟨Nat.le_of_ble_eq_true rfl, Nat.le_of_ble_eq_true rfl⟩ (hP.sub (ws' := [(h0, .inr (0, [.ref qsh, .ref qex, .ref qso]))]) [0] rfl) (hD.sub (ws' := [(h0, .inr (0, [.ref qsh, .ref qex, .ref qso]))]) [0] (by decide) rfl) (hK.sub (tys' := []) [] rfl) hE hS (va_free (wc := [(h0, .inr (0, [.ref qsh, .ref qex, .ref qso]))]) hD hS hA [0] rfl) rfl rfl rfl hl.1 rfl (Nat.le_of_ble_eq_true rfl) d_Law_fixed_10 ⟨Nat.le_of_ble_eq_true rfl, Nat.le_of_ble_eq_true rfl⟩) hP hS (fun ce q9 H locs hP hS hce hcv hcl => ?_)
  refine cat_0 (hh := [(0, 15, 18, 13), (0, 15, 22, 22)]) (x1 := (0, 15, 18, 13)) (suf := [(0, 15, 22, 22)]) C0 hTab rfl (by decide) (by decide) kw_413_ (nw_at hE _ (List.mem_of_getElem? (i := 10) rfl)) hce hcv hcl ?_
  refine lv_astore (lv' := [(7, .ref q9), (0, .ref h0), (1, .long (lN (b))), (3, .int (bZ (nw = true))), (4, .int (iZ (z1))), (5, .int (iZ (z2))), (6, .ref qo)]) hx hb d_Law_fixed_18 hl (by decide) rfl (fun ls hl => ?_)
  refine lv_iconst (v := iZ (1)) hx hb d_Law_fixed_20 rfl ?_
  exact ew_i () hx hb hr hlocks d_Law_fixed_21 (show iZ (1) = iZ (1) from rfl) (hP.sub (ws' := [(h0, .inr (0, [.ref qsh, .ref qex, .ref qso])), (qo, .inl (kA, 1, .inr (.inl fo)))]) [0, 1] rfl) (hD.sub (ws' := [(h0, .inr (0, [.ref qsh, .ref qex, .ref qso])), (qo, .inl (kA, 1, .inr (.inl fo)))]) [0, 1] (by decide) rfl) (hK.sub (tys' := [(kA, .long)]) [0] rfl) hS (Nat.le_of_ble_eq_true rfl) (Nat.le_of_ble_eq_true rfl)
abbrev Qc_Law_fixed_x3 (D : va_G) (h0 : Nat) (qsh : Nat) (qex : Nat) (qso : Nat) (qo : Nat) (kA : ClassId) (fo : Nat → Int64) (b : Nat) (nw : Bool) (z1 : Int) (z2 : Int) (A : Nat → Prop) : Array Value → State → Outcome → State → Prop := va_Qi (fun (r : Int32) (u : Unit) => r = iZ (1)) (fun (u : Unit) t9 => cpost D A [(h0, .inr (0, [.ref qsh, .ref qex, .ref qso])), (qo, .inl (kA, 1, .inr (.inl fo)))] [(kA, .long)] t9) A
set_option maxHeartbeats 4000000 in
set_option maxRecDepth 100000 in
theorem c_Law_fixed_x3 (l : Launch) (hst : l.stackTraces = false) (D : va_G) (Z : Nat → Nat) (hz9 : Nat) (h0 : Nat) (qsh : Nat) (qex : Nat) (qso : Nat) (qo : Nat) (kA : ClassId) (fo : Nat → Int64) (b : Nat) (nw : Bool) (z1 : Int) (z2 : Int) (hb9 : b < 18446744073709551616) (hok : nw = true → b < 4294967296) (hz1 : -2147483648 ≤ z1 ∧ z1 < 2147483648) (hz2 : -2147483648 ≤ z2 ∧ z2 < 2147483648) (hok1 : 0 ≤ z1 ∧ z1 ≤ 1100) (hno : z2 < 0 ∨ 3 < z2) : Met l y_Law_fixed (.codeWith y_Law_fixed b_Law_fixed 8 (some .int) [(0, 15, 18, 13), (0, 15, 22, 22)] :: gT) ({ frames := 8, cells := 1, slots := 6, locals := 129 } : Room) (va_Pc [.ref h0, .long (lN (b)), .int (bZ (nw = true)), .int (iZ (z1)), .int (iZ (z2)), .ref qo] (cpre D Z [(h0, .inr (0, [.ref qsh, .ref qex, .ref qso])), (qo, .inl (kA, 1, .inr (.inl fo)))] [(kA, .long)] hz9)) (Qc_Law_fixed_x3 D h0 qsh qex qso qo kA fo b nw z1 z2 (va_A [(h0, .inr (0, [.ref qsh, .ref qex, .ref qso])), (qo, .inl (kA, 1, .inr (.inl fo)))] hz9)) 1 6 (va_A [(h0, .inr (0, [.ref qsh, .ref qex, .ref qso])), (qo, .inl (kA, 1, .inr (.inl fo)))] hz9) := by
  refine met_goH (Qf := Qc_Law_fixed_x3 D h0 qsh qex qso qo kA fo b nw z1 z2) (ff := fun A => A) (by decide) ?_
  intro p e s m below meth c A C0 hTab hsz9 hA hE hK hP hD
  obtain ⟨hx, hb, hml, hown, hts, hr, hlocks⟩ := id C0
  have hS : va_S A s.heap s.heap [] := va_S.rf
  have hl := lv_entry [.ref h0, .long (lN (b)), .int (bZ (nw = true)), .int (iZ (z1)), .int (iZ (z2)), .ref qo] (n := 8) (Nat.le_of_ble_eq_true rfl)
  rw [lg_entry_eq]
  generalize (lg_sl [.ref h0, .long (lN (b)), .int (bZ (nw = true)), .int (iZ (z1)), .int (iZ (z2)), .ref qo] ++ List.replicate (8 - (lg_sl [.ref h0, .long (lN (b)), .int (bZ (nw = true)), .int (iZ (z1)), .int (iZ (z2)), .ref qo]).length) Slot.unset).toArray = ls at hl ⊢
  have hl : lv_has ls 8 [(0, .ref h0), (1, .long (lN (b))), (3, .int (bZ (nw = true))), (4, .int (iZ (z1))), (5, .int (iZ (z2))), (6, .ref qo)] := hl
  refine lv_aload hx hb d_Law_fixed_0 (lv_at hl 5 rfl) ?_
  refine lv_iconst (v := iZ (0)) hx hb d_Law_fixed_2 rfl ?_
  refine lv_aload_n hx hb d_Law_fixed_3 rfl (lv_at hl 0 rfl) ?_
  refine lv_lload_n hx hb d_Law_fixed_4 rfl (lv_at hl 1 rfl) ?_
  refine lv_iload_n hx hb d_Law_fixed_5 rfl (lv_at hl 2 rfl) ?_
  refine lv_iload hx hb d_Law_fixed_6 (lv_at hl 3 rfl) ?_
  refine lv_iload hx hb d_Law_fixed_8 (lv_at hl 4 rfl) ?_
  refine kx_i (ws := [(h0, .inr (0, [.ref qsh, .ref qex, .ref qso])), (qo, .inl (kA, 1, .inr (.inl fo)))]) (kx_V (C0 := R_FW) (ci := 0) (i0 := 0) (As := [.long (lN (b)), .int (bZ (nw = true)), .int (iZ (z1)), .int (iZ (z2))]) (rest := [.int (iZ (0)), .ref qo]) C0 (c_FW_fixed_x3 l hst D Z _ h0 qsh qex qso b nw z1 z2 (by assumption) (by assumption) (by assumption) (by assumption) (by assumption) (by assumption)) q_y_FW_fixed kw_418_ kw_417_ kw_419_ kw_3_ hd_y_FW_fixed rfl rfl ⟨Nat.le_of_ble_eq_true rfl, Nat.le_of_ble_eq_true rfl⟩ (hP.sub (ws' := [(h0, .inr (0, [.ref qsh, .ref qex, .ref qso]))]) [0] rfl) (hD.sub (ws' := [(h0, .inr (0, [.ref qsh, .ref qex, .ref qso]))]) [0] (by decide) rfl) (hK.sub (tys' := []) [] rfl) hE hS (va_free (wc := [(h0, .inr (0, [.ref qsh, .ref qex, .ref qso]))]) hD hS hA [0] rfl) rfl rfl rfl hl.1 rfl (Nat.le_of_ble_eq_true rfl) d_Law_fixed_10 ⟨Nat.le_of_ble_eq_true rfl, Nat.le_of_ble_eq_true rfl⟩) hP hS (fun ce q9 H locs hP hS hce hcv hcl => ?_)
  refine cat_0 (hh := [(0, 15, 18, 13), (0, 15, 22, 22)]) (x1 := (0, 15, 18, 13)) (suf := [(0, 15, 22, 22)]) C0 hTab rfl (by decide) (by decide) kw_413_ (nw_at hE _ (List.mem_of_getElem? (i := 10) rfl)) hce hcv hcl ?_
  refine lv_astore (lv' := [(7, .ref q9), (0, .ref h0), (1, .long (lN (b))), (3, .int (bZ (nw = true))), (4, .int (iZ (z1))), (5, .int (iZ (z2))), (6, .ref qo)]) hx hb d_Law_fixed_18 hl (by decide) rfl (fun ls hl => ?_)
  refine lv_iconst (v := iZ (1)) hx hb d_Law_fixed_20 rfl ?_
  exact ew_i () hx hb hr hlocks d_Law_fixed_21 (show iZ (1) = iZ (1) from rfl) (hP.sub (ws' := [(h0, .inr (0, [.ref qsh, .ref qex, .ref qso])), (qo, .inl (kA, 1, .inr (.inl fo)))]) [0, 1] rfl) (hD.sub (ws' := [(h0, .inr (0, [.ref qsh, .ref qex, .ref qso])), (qo, .inl (kA, 1, .inr (.inl fo)))]) [0, 1] (by decide) rfl) (hK.sub (tys' := [(kA, .long)]) [0] rfl) hS (Nat.le_of_ble_eq_true rfl) (Nat.le_of_ble_eq_true rfl)
abbrev Qc_Law_fixed_x4 (D : va_G) (h0 : Nat) (qsh : Nat) (qex : Nat) (qso : Nat) (qo : Nat) (kA : ClassId) (fo : Nat → Int64) (b : Nat) (nw : Bool) (z1 : Int) (z2 : Int) (A : Nat → Prop) : Array Value → State → Outcome → State → Prop := va_Qi (fun (r : Int32) (u : Unit) => r = iZ (2)) (fun (u : Unit) t9 => cpost D A [(h0, .inr (0, [.ref qsh, .ref qex, .ref qso])), (qo, .inl (kA, 1, .inr (.inl fo)))] [(kA, .long)] t9) A
set_option maxHeartbeats 4000000 in
set_option maxRecDepth 100000 in
theorem c_Law_fixed_x4 (l : Launch) (hst : l.stackTraces = false) (D : va_G) (Z : Nat → Nat) (hz9 : Nat) (h0 : Nat) (qsh : Nat) (qex : Nat) (qso : Nat) (qo : Nat) (kA : ClassId) (fo : Nat → Int64) (b : Nat) (nw : Bool) (z1 : Int) (z2 : Int) (hb9 : b < 18446744073709551616) (hok : nw = true → b < 4294967296) (hz1 : -2147483648 ≤ z1 ∧ z1 < 2147483648) (hz2 : -2147483648 ≤ z2 ∧ z2 < 2147483648) (hok1 : 0 ≤ z1 ∧ z1 ≤ 1100) (hok2 : 0 ≤ z2 ∧ z2 ≤ 3) (hnf : ¬ fSz b nw < fI nw) : Met l y_Law_fixed (.codeWith y_Law_fixed b_Law_fixed 8 (some .int) [(0, 15, 18, 13), (0, 15, 22, 22)] :: gT) ({ frames := 8, cells := 1, slots := 6, locals := 129 } : Room) (va_Pc [.ref h0, .long (lN (b)), .int (bZ (nw = true)), .int (iZ (z1)), .int (iZ (z2)), .ref qo] (cpre D Z [(h0, .inr (0, [.ref qsh, .ref qex, .ref qso])), (qo, .inl (kA, 1, .inr (.inl fo)))] [(kA, .long)] hz9)) (Qc_Law_fixed_x4 D h0 qsh qex qso qo kA fo b nw z1 z2 (va_A [(h0, .inr (0, [.ref qsh, .ref qex, .ref qso])), (qo, .inl (kA, 1, .inr (.inl fo)))] hz9)) 1 6 (va_A [(h0, .inr (0, [.ref qsh, .ref qex, .ref qso])), (qo, .inl (kA, 1, .inr (.inl fo)))] hz9) := by
  refine met_goH (Qf := Qc_Law_fixed_x4 D h0 qsh qex qso qo kA fo b nw z1 z2) (ff := fun A => A) (by decide) ?_
  intro p e s m below meth c A C0 hTab hsz9 hA hE hK hP hD
  obtain ⟨hx, hb, hml, hown, hts, hr, hlocks⟩ := id C0
  have hS : va_S A s.heap s.heap [] := va_S.rf
  have hl := lv_entry [.ref h0, .long (lN (b)), .int (bZ (nw = true)), .int (iZ (z1)), .int (iZ (z2)), .ref qo] (n := 8) (Nat.le_of_ble_eq_true rfl)
  rw [lg_entry_eq]
  generalize (lg_sl [.ref h0, .long (lN (b)), .int (bZ (nw = true)), .int (iZ (z1)), .int (iZ (z2)), .ref qo] ++ List.replicate (8 - (lg_sl [.ref h0, .long (lN (b)), .int (bZ (nw = true)), .int (iZ (z1)), .int (iZ (z2)), .ref qo]).length) Slot.unset).toArray = ls at hl ⊢
  have hl : lv_has ls 8 [(0, .ref h0), (1, .long (lN (b))), (3, .int (bZ (nw = true))), (4, .int (iZ (z1))), (5, .int (iZ (z2))), (6, .ref qo)] := hl
  refine lv_aload hx hb d_Law_fixed_0 (lv_at hl 5 rfl) ?_
  refine lv_iconst (v := iZ (0)) hx hb d_Law_fixed_2 rfl ?_
  refine lv_aload_n hx hb d_Law_fixed_3 rfl (lv_at hl 0 rfl) ?_
  refine lv_lload_n hx hb d_Law_fixed_4 rfl (lv_at hl 1 rfl) ?_
  refine lv_iload_n hx hb d_Law_fixed_5 rfl (lv_at hl 2 rfl) ?_
  refine lv_iload hx hb d_Law_fixed_6 (lv_at hl 3 rfl) ?_
  refine lv_iload hx hb d_Law_fixed_8 (lv_at hl 4 rfl) ?_
  refine kx_i (ws := [(h0, .inr (0, [.ref qsh, .ref qex, .ref qso])), (qo, .inl (kA, 1, .inr (.inl fo)))]) (kx_V (C0 := R_FW) (ci := 0) (i0 := 0) (As := [.long (lN (b)), .int (bZ (nw = true)), .int (iZ (z1)), .int (iZ (z2))]) (rest := [.int (iZ (0)), .ref qo]) C0 (c_FW_fixed_x4 l hst D Z _ h0 qsh qex qso b nw z1 z2 (by assumption) (by assumption) (by assumption) (by assumption) (by assumption) (by assumption) (by assumption)) q_y_FW_fixed kw_418_ kw_417_ kw_419_ kw_3_ hd_y_FW_fixed rfl rfl ⟨Nat.le_of_ble_eq_true rfl, Nat.le_of_ble_eq_true rfl⟩ (hP.sub (ws' := [(h0, .inr (0, [.ref qsh, .ref qex, .ref qso]))]) [0] rfl) (hD.sub (ws' := [(h0, .inr (0, [.ref qsh, .ref qex, .ref qso]))]) [0] (by decide) rfl) (hK.sub (tys' := []) [] rfl) hE hS (va_free (wc := [(h0, .inr (0, [.ref qsh, .ref qex, .ref qso]))]) hD hS hA [0] rfl) rfl rfl rfl hl.1 rfl (Nat.le_of_ble_eq_true rfl) d_Law_fixed_10 ⟨Nat.le_of_ble_eq_true rfl, Nat.le_of_ble_eq_true rfl⟩) hP hS (fun ce q9 H locs hP hS hce hcv hcl => ?_)
  refine cat_1 (hh := [(0, 15, 18, 13), (0, 15, 22, 22)]) (x0 := (0, 15, 18, 13)) (x1 := (0, 15, 22, 22)) (suf := []) C0 hTab rfl (by decide) (by decide) (by decide) kw_413_ hE.nc kw_420_ (nw_at hE _ (List.mem_of_getElem? (i := 11) rfl)) hce hcv hcl ?_
  refine lv_astore (lv' := [(7, .ref q9), (0, .ref h0), (1, .long (lN (b))), (3, .int (bZ (nw = true))), (4, .int (iZ (z1))), (5, .int (iZ (z2))), (6, .ref qo)]) hx hb d_Law_fixed_22 hl (by decide) rfl (fun ls hl => ?_)
  refine lv_iconst (v := iZ (2)) hx hb d_Law_fixed_24 rfl ?_
  exact ew_i () hx hb hr hlocks d_Law_fixed_25 (show iZ (2) = iZ (2) from rfl) (hP.sub (ws' := [(h0, .inr (0, [.ref qsh, .ref qex, .ref qso])), (qo, .inl (kA, 1, .inr (.inl fo)))]) [0, 1] rfl) (hD.sub (ws' := [(h0, .inr (0, [.ref qsh, .ref qex, .ref qso])), (qo, .inl (kA, 1, .inr (.inl fo)))]) [0, 1] (by decide) rfl) (hK.sub (tys' := [(kA, .long)]) [0] rfl) hS (Nat.le_of_ble_eq_true rfl) (Nat.le_of_ble_eq_true rfl)
abbrev Qc_Law_scientific_x1 (D : va_G) (h0 : Nat) (qsh : Nat) (qex : Nat) (qso : Nat) (qo : Nat) (kA : ClassId) (fo : Nat → Int64) (b : Nat) (nw : Bool) (z1 : Int) (z2 : Int) (A : Nat → Prop) : Array Value → State → Outcome → State → Prop := va_Qi (fun (r : Int32) (u : Unit) => r = iZ (1)) (fun (u : Unit) t9 => cpost D A [(h0, .inr (0, [.ref qsh, .ref qex, .ref qso])), (qo, .inl (kA, 1, .inr (.inl fo)))] [(kA, .long)] t9) A
set_option maxHeartbeats 4000000 in
set_option maxRecDepth 100000 in
theorem c_Law_scientific_x1 (l : Launch) (hst : l.stackTraces = false) (D : va_G) (Z : Nat → Nat) (hz9 : Nat) (h0 : Nat) (qsh : Nat) (qex : Nat) (qso : Nat) (qo : Nat) (kA : ClassId) (fo : Nat → Int64) (b : Nat) (nw : Bool) (z1 : Int) (z2 : Int) (hb9 : b < 18446744073709551616) (hwr : nw = true ∧ ¬ b < 4294967296) (hz1 : -2147483648 ≤ z1 ∧ z1 < 2147483648) (hz2 : -2147483648 ≤ z2 ∧ z2 < 2147483648) : Met l y_Law_scientific (.codeWith y_Law_scientific b_Law_scientific 8 (some .int) [(0, 15, 18, 13), (0, 15, 22, 22)] :: gT) ({ frames := 8, cells := 1, slots := 6, locals := 129 } : Room) (va_Pc [.ref h0, .long (lN (b)), .int (bZ (nw = true)), .int (iZ (z1)), .int (iZ (z2)), .ref qo] (cpre D Z [(h0, .inr (0, [.ref qsh, .ref qex, .ref qso])), (qo, .inl (kA, 1, .inr (.inl fo)))] [(kA, .long)] hz9)) (Qc_Law_scientific_x1 D h0 qsh qex qso qo kA fo b nw z1 z2 (va_A [(h0, .inr (0, [.ref qsh, .ref qex, .ref qso])), (qo, .inl (kA, 1, .inr (.inl fo)))] hz9)) 1 6 (va_A [(h0, .inr (0, [.ref qsh, .ref qex, .ref qso])), (qo, .inl (kA, 1, .inr (.inl fo)))] hz9) := by
  refine met_goH (Qf := Qc_Law_scientific_x1 D h0 qsh qex qso qo kA fo b nw z1 z2) (ff := fun A => A) (by decide) ?_
  intro p e s m below meth c A C0 hTab hsz9 hA hE hK hP hD
  obtain ⟨hx, hb, hml, hown, hts, hr, hlocks⟩ := id C0
  have hS : va_S A s.heap s.heap [] := va_S.rf
  have hl := lv_entry [.ref h0, .long (lN (b)), .int (bZ (nw = true)), .int (iZ (z1)), .int (iZ (z2)), .ref qo] (n := 8) (Nat.le_of_ble_eq_true rfl)
  rw [lg_entry_eq]
  generalize (lg_sl [.ref h0, .long (lN (b)), .int (bZ (nw = true)), .int (iZ (z1)), .int (iZ (z2)), .ref qo] ++ List.replicate (8 - (lg_sl [.ref h0, .long (lN (b)), .int (bZ (nw = true)), .int (iZ (z1)), .int (iZ (z2)), .ref qo]).length) Slot.unset).toArray = ls at hl ⊢
  have hl : lv_has ls 8 [(0, .ref h0), (1, .long (lN (b))), (3, .int (bZ (nw = true))), (4, .int (iZ (z1))), (5, .int (iZ (z2))), (6, .ref qo)] := hl
  refine lv_aload hx hb d_Law_scientific_0 (lv_at hl 5 rfl) ?_
  refine lv_iconst (v := iZ (0)) hx hb d_Law_scientific_2 rfl ?_
  refine lv_aload_n hx hb d_Law_scientific_3 rfl (lv_at hl 0 rfl) ?_
  refine lv_lload_n hx hb d_Law_scientific_4 rfl (lv_at hl 1 rfl) ?_
  refine lv_iload_n hx hb d_Law_scientific_5 rfl (lv_at hl 2 rfl) ?_
  refine lv_iload hx hb d_Law_scientific_6 (lv_at hl 3 rfl) ?_
  refine lv_iload hx hb d_Law_scientific_8 (lv_at hl 4 rfl) ?_
  refine kx_i (ws := [(h0, .inr (0, [.ref qsh, .ref qex, .ref qso])), (qo, .inl (kA, 1, .inr (.inl fo)))]) (kx_V (C0 := R_FW) (ci := 0) (i0 := 0) (As := [.long (lN (b)), .int (bZ (nw = true)), .int (iZ (z1)), .int (iZ (z2))]) (rest := [.int (iZ (0)), .ref qo]) C0 (c_FW_scientific_x1 l hst D Z _ h0 qsh qex qso b nw z1 z2 (by assumption) (by assumption) (by assumption) (by assumption)) q_y_FW_scientific kw_422_ kw_421_ kw_423_ kw_3_ hd_y_FW_scientific rfl rfl ⟨Nat.le_of_ble_eq_true rfl, Nat.le_of_ble_eq_true rfl⟩ (hP.sub (ws' := [(h0, .inr (0, [.ref qsh, .ref qex, .ref qso]))]) [0] rfl) (hD.sub (ws' := [(h0, .inr (0, [.ref qsh, .ref qex, .ref qso]))]) [0] (by decide) rfl) (hK.sub (tys' := []) [] rfl) hE hS (va_free (wc := [(h0, .inr (0, [.ref qsh, .ref qex, .ref qso]))]) hD hS hA [0] rfl) rfl rfl rfl hl.1 rfl (Nat.le_of_ble_eq_true rfl) d_Law_scientific_10 ⟨Nat.le_of_ble_eq_true rfl, Nat.le_of_ble_eq_true rfl⟩) hP hS (fun ce q9 H locs hP hS hce hcv hcl => ?_)
  refine cat_0 (hh := [(0, 15, 18, 13), (0, 15, 22, 22)]) (x1 := (0, 15, 18, 13)) (suf := [(0, 15, 22, 22)]) C0 hTab rfl (by decide) (by decide) kw_413_ (nw_at hE _ (List.mem_of_getElem? (i := 10) rfl)) hce hcv hcl ?_
  refine lv_astore (lv' := [(7, .ref q9), (0, .ref h0), (1, .long (lN (b))), (3, .int (bZ (nw = true))), (4, .int (iZ (z1))), (5, .int (iZ (z2))), (6, .ref qo)]) hx hb d_Law_scientific_18 hl (by decide) rfl (fun ls hl => ?_)
  refine lv_iconst (v := iZ (1)) hx hb d_Law_scientific_20 rfl ?_
  exact ew_i () hx hb hr hlocks d_Law_scientific_21 (show iZ (1) = iZ (1) from rfl) (hP.sub (ws' := [(h0, .inr (0, [.ref qsh, .ref qex, .ref qso])), (qo, .inl (kA, 1, .inr (.inl fo)))]) [0, 1] rfl) (hD.sub (ws' := [(h0, .inr (0, [.ref qsh, .ref qex, .ref qso])), (qo, .inl (kA, 1, .inr (.inl fo)))]) [0, 1] (by decide) rfl) (hK.sub (tys' := [(kA, .long)]) [0] rfl) hS (Nat.le_of_ble_eq_true rfl) (Nat.le_of_ble_eq_true rfl)
abbrev Qc_Law_scientific_x2 (D : va_G) (h0 : Nat) (qsh : Nat) (qex : Nat) (qso : Nat) (qo : Nat) (kA : ClassId) (fo : Nat → Int64) (b : Nat) (nw : Bool) (z1 : Int) (z2 : Int) (A : Nat → Prop) : Array Value → State → Outcome → State → Prop := va_Qi (fun (r : Int32) (u : Unit) => r = iZ (1)) (fun (u : Unit) t9 => cpost D A [(h0, .inr (0, [.ref qsh, .ref qex, .ref qso])), (qo, .inl (kA, 1, .inr (.inl fo)))] [(kA, .long)] t9) A
set_option maxHeartbeats 4000000 in
set_option maxRecDepth 100000 in
theorem c_Law_scientific_x2 (l : Launch) (hst : l.stackTraces = false) (D : va_G) (Z : Nat → Nat) (hz9 : Nat) (h0 : Nat) (qsh : Nat) (qex : Nat) (qso : Nat) (qo : Nat) (kA : ClassId) (fo : Nat → Int64) (b : Nat) (nw : Bool) (z1 : Int) (z2 : Int) (hb9 : b < 18446744073709551616) (hok : nw = true → b < 4294967296) (hz1 : -2147483648 ≤ z1 ∧ z1 < 2147483648) (hz2 : -2147483648 ≤ z2 ∧ z2 < 2147483648) (hno : z1 < 1 ∨ 800 < z1) : Met l y_Law_scientific (.codeWith y_Law_scientific b_Law_scientific 8 (some .int) [(0, 15, 18, 13), (0, 15, 22, 22)] :: gT) ({ frames := 8, cells := 1, slots := 6, locals := 129 } : Room) (va_Pc [.ref h0, .long (lN (b)), .int (bZ (nw = true)), .int (iZ (z1)), .int (iZ (z2)), .ref qo] (cpre D Z [(h0, .inr (0, [.ref qsh, .ref qex, .ref qso])), (qo, .inl (kA, 1, .inr (.inl fo)))] [(kA, .long)] hz9)) (Qc_Law_scientific_x2 D h0 qsh qex qso qo kA fo b nw z1 z2 (va_A [(h0, .inr (0, [.ref qsh, .ref qex, .ref qso])), (qo, .inl (kA, 1, .inr (.inl fo)))] hz9)) 1 6 (va_A [(h0, .inr (0, [.ref qsh, .ref qex, .ref qso])), (qo, .inl (kA, 1, .inr (.inl fo)))] hz9) := by
  refine met_goH (Qf := Qc_Law_scientific_x2 D h0 qsh qex qso qo kA fo b nw z1 z2) (ff := fun A => A) (by decide) ?_
  intro p e s m below meth c A C0 hTab hsz9 hA hE hK hP hD
  obtain ⟨hx, hb, hml, hown, hts, hr, hlocks⟩ := id C0
  have hS : va_S A s.heap s.heap [] := va_S.rf
  have hl := lv_entry [.ref h0, .long (lN (b)), .int (bZ (nw = true)), .int (iZ (z1)), .int (iZ (z2)), .ref qo] (n := 8) (Nat.le_of_ble_eq_true rfl)
  rw [lg_entry_eq]
  generalize (lg_sl [.ref h0, .long (lN (b)), .int (bZ (nw = true)), .int (iZ (z1)), .int (iZ (z2)), .ref qo] ++ List.replicate (8 - (lg_sl [.ref h0, .long (lN (b)), .int (bZ (nw = true)), .int (iZ (z1)), .int (iZ (z2)), .ref qo]).length) Slot.unset).toArray = ls at hl ⊢
  have hl : lv_has ls 8 [(0, .ref h0), (1, .long (lN (b))), (3, .int (bZ (nw = true))), (4, .int (iZ (z1))), (5, .int (iZ (z2))), (6, .ref qo)] := hl
  refine lv_aload hx hb d_Law_scientific_0 (lv_at hl 5 rfl) ?_
  refine lv_iconst (v := iZ (0)) hx hb d_Law_scientific_2 rfl ?_
  refine lv_aload_n hx hb d_Law_scientific_3 rfl (lv_at hl 0 rfl) ?_
  refine lv_lload_n hx hb d_Law_scientific_4 rfl (lv_at hl 1 rfl) ?_
  refine lv_iload_n hx hb d_Law_scientific_5 rfl (lv_at hl 2 rfl) ?_
  refine lv_iload hx hb d_Law_scientific_6 (lv_at hl 3 rfl) ?_
  refine lv_iload hx hb d_Law_scientific_8 (lv_at hl 4 rfl) ?_
  refine kx_i (ws := [(h0, .inr (0, [.ref qsh, .ref qex, .ref qso])), (qo, .inl (kA, 1, .inr (.inl fo)))]) (kx_V (C0 := R_FW) (ci := 0) (i0 := 0) (As := [.long (lN (b)), .int (bZ (nw = true)), .int (iZ (z1)), .int (iZ (z2))]) (rest := [.int (iZ (0)), .ref qo]) C0 (c_FW_scientific_x2 l hst D Z _ h0 qsh qex qso b nw z1 z2 (by assumption) (by assumption) (by assumption) (by assumption) (by assumption)) q_y_FW_scientific kw_422_ kw_421_ kw_423_ kw_3_ hd_y_FW_scientific rfl rfl ⟨Nat.le_of_ble_eq_true rfl, Nat.le_of_ble_eq_true rfl⟩ (hP.sub (ws' := [(h0, .inr (0, [.ref qsh, .ref qex, .ref qso]))]) [0] rfl) (hD.sub (ws' := [(h0, .inr (0, [.ref qsh, .ref qex, .ref qso]))]) [0] (by decide) rfl) (hK.sub (tys' := []) [] rfl) hE hS (va_free (wc := [(h0, .inr (0, [.ref qsh, .ref qex, .ref qso]))]) hD hS hA [0] rfl) rfl rfl rfl hl.1 rfl (Nat.le_of_ble_eq_true rfl) d_Law_scientific_10 ⟨Nat.le_of_ble_eq_true rfl, Nat.le_of_ble_eq_true rfl⟩) hP hS (fun ce q9 H locs hP hS hce hcv hcl => ?_)
  refine cat_0 (hh := [(0, 15, 18, 13), (0, 15, 22, 22)]) (x1 := (0, 15, 18, 13)) (suf := [(0, 15, 22, 22)]) C0 hTab rfl (by decide) (by decide) kw_413_ (nw_at hE _ (List.mem_of_getElem? (i := 10) rfl)) hce hcv hcl ?_
  refine lv_astore (lv' := [(7, .ref q9), (0, .ref h0), (1, .long (lN (b))), (3, .int (bZ (nw = true))), (4, .int (iZ (z1))), (5, .int (iZ (z2))), (6, .ref qo)]) hx hb d_Law_scientific_18 hl (by decide) rfl (fun ls hl => ?_)
  refine lv_iconst (v := iZ (1)) hx hb d_Law_scientific_20 rfl ?_
  exact ew_i () hx hb hr hlocks d_Law_scientific_21 (show iZ (1) = iZ (1) from rfl) (hP.sub (ws' := [(h0, .inr (0, [.ref qsh, .ref qex, .ref qso])), (qo, .inl (kA, 1, .inr (.inl fo)))]) [0, 1] rfl) (hD.sub (ws' := [(h0, .inr (0, [.ref qsh, .ref qex, .ref qso])), (qo, .inl (kA, 1, .inr (.inl fo)))]) [0, 1] (by decide) rfl) (hK.sub (tys' := [(kA, .long)]) [0] rfl) hS (Nat.le_of_ble_eq_true rfl) (Nat.le_of_ble_eq_true rfl)
abbrev Qc_Law_scientific_x3 (D : va_G) (h0 : Nat) (qsh : Nat) (qex : Nat) (qso : Nat) (qo : Nat) (kA : ClassId) (fo : Nat → Int64) (b : Nat) (nw : Bool) (z1 : Int) (z2 : Int) (A : Nat → Prop) : Array Value → State → Outcome → State → Prop := va_Qi (fun (r : Int32) (u : Unit) => r = iZ (1)) (fun (u : Unit) t9 => cpost D A [(h0, .inr (0, [.ref qsh, .ref qex, .ref qso])), (qo, .inl (kA, 1, .inr (.inl fo)))] [(kA, .long)] t9) A
set_option maxHeartbeats 4000000 in
set_option maxRecDepth 100000 in
theorem c_Law_scientific_x3 (l : Launch) (hst : l.stackTraces = false) (D : va_G) (Z : Nat → Nat) (hz9 : Nat) (h0 : Nat) (qsh : Nat) (qex : Nat) (qso : Nat) (qo : Nat) (kA : ClassId) (fo : Nat → Int64) (b : Nat) (nw : Bool) (z1 : Int) (z2 : Int) (hb9 : b < 18446744073709551616) (hok : nw = true → b < 4294967296) (hz1 : -2147483648 ≤ z1 ∧ z1 < 2147483648) (hz2 : -2147483648 ≤ z2 ∧ z2 < 2147483648) (hok1 : 1 ≤ z1 ∧ z1 ≤ 800) (hno : z2 < 0 ∨ 3 < z2) : Met l y_Law_scientific (.codeWith y_Law_scientific b_Law_scientific 8 (some .int) [(0, 15, 18, 13), (0, 15, 22, 22)] :: gT) ({ frames := 8, cells := 1, slots := 6, locals := 129 } : Room) (va_Pc [.ref h0, .long (lN (b)), .int (bZ (nw = true)), .int (iZ (z1)), .int (iZ (z2)), .ref qo] (cpre D Z [(h0, .inr (0, [.ref qsh, .ref qex, .ref qso])), (qo, .inl (kA, 1, .inr (.inl fo)))] [(kA, .long)] hz9)) (Qc_Law_scientific_x3 D h0 qsh qex qso qo kA fo b nw z1 z2 (va_A [(h0, .inr (0, [.ref qsh, .ref qex, .ref qso])), (qo, .inl (kA, 1, .inr (.inl fo)))] hz9)) 1 6 (va_A [(h0, .inr (0, [.ref qsh, .ref qex, .ref qso])), (qo, .inl (kA, 1, .inr (.inl fo)))] hz9) := by
  refine met_goH (Qf := Qc_Law_scientific_x3 D h0 qsh qex qso qo kA fo b nw z1 z2) (ff := fun A => A) (by decide) ?_
  intro p e s m below meth c A C0 hTab hsz9 hA hE hK hP hD
  obtain ⟨hx, hb, hml, hown, hts, hr, hlocks⟩ := id C0
  have hS : va_S A s.heap s.heap [] := va_S.rf
  have hl := lv_entry [.ref h0, .long (lN (b)), .int (bZ (nw = true)), .int (iZ (z1)), .int (iZ (z2)), .ref qo] (n := 8) (Nat.le_of_ble_eq_true rfl)
  rw [lg_entry_eq]
  generalize (lg_sl [.ref h0, .long (lN (b)), .int (bZ (nw = true)), .int (iZ (z1)), .int (iZ (z2)), .ref qo] ++ List.replicate (8 - (lg_sl [.ref h0, .long (lN (b)), .int (bZ (nw = true)), .int (iZ (z1)), .int (iZ (z2)), .ref qo]).length) Slot.unset).toArray = ls at hl ⊢
  have hl : lv_has ls 8 [(0, .ref h0), (1, .long (lN (b))), (3, .int (bZ (nw = true))), (4, .int (iZ (z1))), (5, .int (iZ (z2))), (6, .ref qo)] := hl
  refine lv_aload hx hb d_Law_scientific_0 (lv_at hl 5 rfl) ?_
  refine lv_iconst (v := iZ (0)) hx hb d_Law_scientific_2 rfl ?_
  refine lv_aload_n hx hb d_Law_scientific_3 rfl (lv_at hl 0 rfl) ?_
  refine lv_lload_n hx hb d_Law_scientific_4 rfl (lv_at hl 1 rfl) ?_
  refine lv_iload_n hx hb d_Law_scientific_5 rfl (lv_at hl 2 rfl) ?_
  refine lv_iload hx hb d_Law_scientific_6 (lv_at hl 3 rfl) ?_
  refine lv_iload hx hb d_Law_scientific_8 (lv_at hl 4 rfl) ?_
  refine kx_i (ws := [(h0, .inr (0, [.ref qsh, .ref qex, .ref qso])), (qo, .inl (kA, 1, .inr (.inl fo)))]) (kx_V (C0 := R_FW) (ci := 0) (i0 := 0) (As := [.long (lN (b)), .int (bZ (nw = true)), .int (iZ (z1)), .int (iZ (z2))]) (rest := [.int (iZ (0)), .ref qo]) C0 (c_FW_scientific_x3 l hst D Z _ h0 qsh qex qso b nw z1 z2 (by assumption) (by assumption) (by assumption) (by assumption) (by assumption) (by assumption)) q_y_FW_scientific kw_422_ kw_421_ kw_423_ kw_3_ hd_y_FW_scientific rfl rfl ⟨Nat.le_of_ble_eq_true rfl, Nat.le_of_ble_eq_true rfl⟩ (hP.sub (ws' := [(h0, .inr (0, [.ref qsh, .ref qex, .ref qso]))]) [0] rfl) (hD.sub (ws' := [(h0, .inr (0, [.ref qsh, .ref qex, .ref qso]))]) [0] (by decide) rfl) (hK.sub (tys' := []) [] rfl) hE hS (va_free (wc := [(h0, .inr (0, [.ref qsh, .ref qex, .ref qso]))]) hD hS hA [0] rfl) rfl rfl rfl hl.1 rfl (Nat.le_of_ble_eq_true rfl) d_Law_scientific_10 ⟨Nat.le_of_ble_eq_true rfl, Nat.le_of_ble_eq_true rfl⟩) hP hS (fun ce q9 H locs hP hS hce hcv hcl => ?_)
  refine cat_0 (hh := [(0, 15, 18, 13), (0, 15, 22, 22)]) (x1 := (0, 15, 18, 13)) (suf := [(0, 15, 22, 22)]) C0 hTab rfl (by decide) (by decide) kw_413_ (nw_at hE _ (List.mem_of_getElem? (i := 10) rfl)) hce hcv hcl ?_
  refine lv_astore (lv' := [(7, .ref q9), (0, .ref h0), (1, .long (lN (b))), (3, .int (bZ (nw = true))), (4, .int (iZ (z1))), (5, .int (iZ (z2))), (6, .ref qo)]) hx hb d_Law_scientific_18 hl (by decide) rfl (fun ls hl => ?_)
  refine lv_iconst (v := iZ (1)) hx hb d_Law_scientific_20 rfl ?_
  exact ew_i () hx hb hr hlocks d_Law_scientific_21 (show iZ (1) = iZ (1) from rfl) (hP.sub (ws' := [(h0, .inr (0, [.ref qsh, .ref qex, .ref qso])), (qo, .inl (kA, 1, .inr (.inl fo)))]) [0, 1] rfl) (hD.sub (ws' := [(h0, .inr (0, [.ref qsh, .ref qex, .ref qso])), (qo, .inl (kA, 1, .inr (.inl fo)))]) [0, 1] (by decide) rfl) (hK.sub (tys' := [(kA, .long)]) [0] rfl) hS (Nat.le_of_ble_eq_true rfl) (Nat.le_of_ble_eq_true rfl)
abbrev Qc_Law_scientific_x4 (D : va_G) (h0 : Nat) (qsh : Nat) (qex : Nat) (qso : Nat) (qo : Nat) (kA : ClassId) (fo : Nat → Int64) (b : Nat) (nw : Bool) (z1 : Int) (z2 : Int) (A : Nat → Prop) : Array Value → State → Outcome → State → Prop := va_Qi (fun (r : Int32) (u : Unit) => r = iZ (2)) (fun (u : Unit) t9 => cpost D A [(h0, .inr (0, [.ref qsh, .ref qex, .ref qso])), (qo, .inl (kA, 1, .inr (.inl fo)))] [(kA, .long)] t9) A
set_option maxHeartbeats 4000000 in
set_option maxRecDepth 100000 in
theorem c_Law_scientific_x4 (l : Launch) (hst : l.stackTraces = false) (D : va_G) (Z : Nat → Nat) (hz9 : Nat) (h0 : Nat) (qsh : Nat) (qex : Nat) (qso : Nat) (qo : Nat) (kA : ClassId) (fo : Nat → Int64) (b : Nat) (nw : Bool) (z1 : Int) (z2 : Int) (hb9 : b < 18446744073709551616) (hok : nw = true → b < 4294967296) (hz1 : -2147483648 ≤ z1 ∧ z1 < 2147483648) (hz2 : -2147483648 ≤ z2 ∧ z2 < 2147483648) (hok1 : 1 ≤ z1 ∧ z1 ≤ 800) (hok2 : 0 ≤ z2 ∧ z2 ≤ 3) (hnf : ¬ fSz b nw < fI nw) : Met l y_Law_scientific (.codeWith y_Law_scientific b_Law_scientific 8 (some .int) [(0, 15, 18, 13), (0, 15, 22, 22)] :: gT) ({ frames := 8, cells := 1, slots := 6, locals := 129 } : Room) (va_Pc [.ref h0, .long (lN (b)), .int (bZ (nw = true)), .int (iZ (z1)), .int (iZ (z2)), .ref qo] (cpre D Z [(h0, .inr (0, [.ref qsh, .ref qex, .ref qso])), (qo, .inl (kA, 1, .inr (.inl fo)))] [(kA, .long)] hz9)) (Qc_Law_scientific_x4 D h0 qsh qex qso qo kA fo b nw z1 z2 (va_A [(h0, .inr (0, [.ref qsh, .ref qex, .ref qso])), (qo, .inl (kA, 1, .inr (.inl fo)))] hz9)) 1 6 (va_A [(h0, .inr (0, [.ref qsh, .ref qex, .ref qso])), (qo, .inl (kA, 1, .inr (.inl fo)))] hz9) := by
  refine met_goH (Qf := Qc_Law_scientific_x4 D h0 qsh qex qso qo kA fo b nw z1 z2) (ff := fun A => A) (by decide) ?_
  intro p e s m below meth c A C0 hTab hsz9 hA hE hK hP hD
  obtain ⟨hx, hb, hml, hown, hts, hr, hlocks⟩ := id C0
  have hS : va_S A s.heap s.heap [] := va_S.rf
  have hl := lv_entry [.ref h0, .long (lN (b)), .int (bZ (nw = true)), .int (iZ (z1)), .int (iZ (z2)), .ref qo] (n := 8) (Nat.le_of_ble_eq_true rfl)
  rw [lg_entry_eq]
  generalize (lg_sl [.ref h0, .long (lN (b)), .int (bZ (nw = true)), .int (iZ (z1)), .int (iZ (z2)), .ref qo] ++ List.replicate (8 - (lg_sl [.ref h0, .long (lN (b)), .int (bZ (nw = true)), .int (iZ (z1)), .int (iZ (z2)), .ref qo]).length) Slot.unset).toArray = ls at hl ⊢
  have hl : lv_has ls 8 [(0, .ref h0), (1, .long (lN (b))), (3, .int (bZ (nw = true))), (4, .int (iZ (z1))), (5, .int (iZ (z2))), (6, .ref qo)] := hl
  refine lv_aload hx hb d_Law_scientific_0 (lv_at hl 5 rfl) ?_
  refine lv_iconst (v := iZ (0)) hx hb d_Law_scientific_2 rfl ?_
  refine lv_aload_n hx hb d_Law_scientific_3 rfl (lv_at hl 0 rfl) ?_
  refine lv_lload_n hx hb d_Law_scientific_4 rfl (lv_at hl 1 rfl) ?_
  refine lv_iload_n hx hb d_Law_scientific_5 rfl (lv_at hl 2 rfl) ?_
  refine lv_iload hx hb d_Law_scientific_6 (lv_at hl 3 rfl) ?_
  refine lv_iload hx hb d_Law_scientific_8 (lv_at hl 4 rfl) ?_
  refine kx_i (ws := [(h0, .inr (0, [.ref qsh, .ref qex, .ref qso])), (qo, .inl (kA, 1, .inr (.inl fo)))]) (kx_V (C0 := R_FW) (ci := 0) (i0 := 0) (As := [.long (lN (b)), .int (bZ (nw = true)), .int (iZ (z1)), .int (iZ (z2))]) (rest := [.int (iZ (0)), .ref qo]) C0 (c_FW_scientific_x4 l hst D Z _ h0 qsh qex qso b nw z1 z2 (by assumption) (by assumption) (by assumption) (by assumption) (by assumption) (by assumption) (by assumption)) q_y_FW_scientific kw_422_ kw_421_ kw_423_ kw_3_ hd_y_FW_scientific rfl rfl ⟨Nat.le_of_ble_eq_true rfl, Nat.le_of_ble_eq_true rfl⟩ (hP.sub (ws' := [(h0, .inr (0, [.ref qsh, .ref qex, .ref qso]))]) [0] rfl) (hD.sub (ws' := [(h0, .inr (0, [.ref qsh, .ref qex, .ref qso]))]) [0] (by decide) rfl) (hK.sub (tys' := []) [] rfl) hE hS (va_free (wc := [(h0, .inr (0, [.ref qsh, .ref qex, .ref qso]))]) hD hS hA [0] rfl) rfl rfl rfl hl.1 rfl (Nat.le_of_ble_eq_true rfl) d_Law_scientific_10 ⟨Nat.le_of_ble_eq_true rfl, Nat.le_of_ble_eq_true rfl⟩) hP hS (fun ce q9 H locs hP hS hce hcv hcl => ?_)
  refine cat_1 (hh := [(0, 15, 18, 13), (0, 15, 22, 22)]) (x0 := (0, 15, 18, 13)) (x1 := (0, 15, 22, 22)) (suf := []) C0 hTab rfl (by decide) (by decide) (by decide) kw_413_ hE.nc kw_420_ (nw_at hE _ (List.mem_of_getElem? (i := 11) rfl)) hce hcv hcl ?_
  refine lv_astore (lv' := [(7, .ref q9), (0, .ref h0), (1, .long (lN (b))), (3, .int (bZ (nw = true))), (4, .int (iZ (z1))), (5, .int (iZ (z2))), (6, .ref qo)]) hx hb d_Law_scientific_22 hl (by decide) rfl (fun ls hl => ?_)
  refine lv_iconst (v := iZ (2)) hx hb d_Law_scientific_24 rfl ?_
  exact ew_i () hx hb hr hlocks d_Law_scientific_25 (show iZ (2) = iZ (2) from rfl) (hP.sub (ws' := [(h0, .inr (0, [.ref qsh, .ref qex, .ref qso])), (qo, .inl (kA, 1, .inr (.inl fo)))]) [0, 1] rfl) (hD.sub (ws' := [(h0, .inr (0, [.ref qsh, .ref qex, .ref qso])), (qo, .inl (kA, 1, .inr (.inl fo)))]) [0, 1] (by decide) rfl) (hK.sub (tys' := [(kA, .long)]) [0] rfl) hS (Nat.le_of_ble_eq_true rfl) (Nat.le_of_ble_eq_true rfl)
abbrev Qc_Law_digits_x1 (D : va_G) (h0 : Nat) (qsh : Nat) (qex : Nat) (qso : Nat) (qo : Nat) (kA : ClassId) (fo : Nat → Int64) (b : Nat) (nw : Bool) (A : Nat → Prop) : Array Value → State → Outcome → State → Prop := va_Qi (fun (r : Int32) (u : Unit) => r = iZ (1)) (fun (u : Unit) t9 => cpost D A [(h0, .inr (0, [.ref qsh, .ref qex, .ref qso])), (qo, .inl (kA, 1, .inr (.inl fo)))] [(kA, .long)] t9) A
set_option maxHeartbeats 4000000 in
set_option maxRecDepth 100000 in
theorem c_Law_digits_x1 (l : Launch) (hst : l.stackTraces = false) (D : va_G) (Z : Nat → Nat) (hz9 : Nat) (h0 : Nat) (qsh : Nat) (qex : Nat) (qso : Nat) (qo : Nat) (kA : ClassId) (fo : Nat → Int64) (b : Nat) (nw : Bool) (hb9 : b < 18446744073709551616) (hwr : nw = true ∧ ¬ b < 4294967296) : Met l y_Law_digits (.codeWith y_Law_digits b_Law_digits 6 (some .int) [(0, 10, 13, 13), (0, 10, 17, 22)] :: gT) ({ frames := 8, cells := 1, slots := 6, locals := 127 } : Room) (va_Pc [.ref h0, .long (lN (b)), .int (bZ (nw = true)), .ref qo] (cpre D Z [(h0, .inr (0, [.ref qsh, .ref qex, .ref qso])), (qo, .inl (kA, 1, .inr (.inl fo)))] [(kA, .long)] hz9)) (Qc_Law_digits_x1 D h0 qsh qex qso qo kA fo b nw (va_A [(h0, .inr (0, [.ref qsh, .ref qex, .ref qso])), (qo, .inl (kA, 1, .inr (.inl fo)))] hz9)) 1 6 (va_A [(h0, .inr (0, [.ref qsh, .ref qex, .ref qso])), (qo, .inl (kA, 1, .inr (.inl fo)))] hz9) := by
  refine met_goH (Qf := Qc_Law_digits_x1 D h0 qsh qex qso qo kA fo b nw) (ff := fun A => A) (by decide) ?_
  intro p e s m below meth c A C0 hTab hsz9 hA hE hK hP hD
  obtain ⟨hx, hb, hml, hown, hts, hr, hlocks⟩ := id C0
  have hS : va_S A s.heap s.heap [] := va_S.rf
  have hl := lv_entry [.ref h0, .long (lN (b)), .int (bZ (nw = true)), .ref qo] (n := 6) (Nat.le_of_ble_eq_true rfl)
  rw [lg_entry_eq]
  generalize (lg_sl [.ref h0, .long (lN (b)), .int (bZ (nw = true)), .ref qo] ++ List.replicate (6 - (lg_sl [.ref h0, .long (lN (b)), .int (bZ (nw = true)), .ref qo]).length) Slot.unset).toArray = ls at hl ⊢
  have hl : lv_has ls 6 [(0, .ref h0), (1, .long (lN (b))), (3, .int (bZ (nw = true))), (4, .ref qo)] := hl
  refine lv_aload hx hb d_Law_digits_0 (lv_at hl 3 rfl) ?_
  refine lv_iconst (v := iZ (0)) hx hb d_Law_digits_2 rfl ?_
  refine lv_aload_n hx hb d_Law_digits_3 rfl (lv_at hl 0 rfl) ?_
  refine lv_lload_n hx hb d_Law_digits_4 rfl (lv_at hl 1 rfl) ?_
  refine lv_iload_n hx hb d_Law_digits_5 rfl (lv_at hl 2 rfl) ?_
  refine kx_l (ws := [(h0, .inr (0, [.ref qsh, .ref qex, .ref qso])), (qo, .inl (kA, 1, .inr (.inl fo)))]) (kx_V (C0 := R_FW) (ci := 0) (i0 := 0) (As := [.long (lN (b)), .int (bZ (nw = true))]) (rest := [.int (iZ (0)), .ref qo]) C0 (c_FW_digits_x1 l hst D Z _ h0 qsh qex qso b nw (by assumption) (by assumption)) q_y_FW_digits kw_425_ kw_424_ kw_426_ kw_3_ hd_y_FW_digits rfl rfl ⟨Nat.le_of_ble_eq_true rfl, Nat.le_of_ble_eq_true rfl⟩ (hP.sub (ws' := [(h0, .inr (0, [.ref qsh, .ref qex, .ref qso]))]) [0] rfl) (hD.sub (ws' := [(h0, .inr (0, [.ref qsh, .ref qex, .ref qso]))]) [0] (by decide) rfl) (hK.sub (tys' := []) [] rfl) hE hS (va_free (wc := [(h0, .inr (0, [.ref qsh, .ref qex, .ref qso]))]) hD hS hA [0] rfl) rfl rfl rfl hl.1 rfl (Nat.le_of_ble_eq_true rfl) d_Law_digits_6 ⟨Nat.le_of_ble_eq_true rfl, Nat.le_of_ble_eq_true rfl⟩) hP hS (fun ce q9 H locs hP hS hce hcv hcl => ?_)
  refine cat_0 (hh := [(0, 10, 13, 13), (0, 10, 17, 22)]) (x1 := (0, 10, 13, 13)) (suf := [(0, 10, 17, 22)]) C0 hTab rfl (by decide) (by decide) kw_413_ (nw_at hE _ (List.mem_of_getElem? (i := 10) rfl)) hce hcv hcl ?_
  refine lv_astore (lv' := [(5, .ref q9), (0, .ref h0), (1, .long (lN (b))), (3, .int (bZ (nw = true))), (4, .ref qo)]) hx hb d_Law_digits_13 hl (by decide) rfl (fun ls hl => ?_)
  refine lv_iconst (v := iZ (1)) hx hb d_Law_digits_15 rfl ?_
  exact ew_i () hx hb hr hlocks d_Law_digits_16 (show iZ (1) = iZ (1) from rfl) (hP.sub (ws' := [(h0, .inr (0, [.ref qsh, .ref qex, .ref qso])), (qo, .inl (kA, 1, .inr (.inl fo)))]) [0, 1] rfl) (hD.sub (ws' := [(h0, .inr (0, [.ref qsh, .ref qex, .ref qso])), (qo, .inl (kA, 1, .inr (.inl fo)))]) [0, 1] (by decide) rfl) (hK.sub (tys' := [(kA, .long)]) [0] rfl) hS (Nat.le_of_ble_eq_true rfl) (Nat.le_of_ble_eq_true rfl)
abbrev Qc_Law_digits_x2 (D : va_G) (h0 : Nat) (qsh : Nat) (qex : Nat) (qso : Nat) (qo : Nat) (kA : ClassId) (fo : Nat → Int64) (b : Nat) (nw : Bool) (A : Nat → Prop) : Array Value → State → Outcome → State → Prop := va_Qi (fun (r : Int32) (u : Unit) => r = iZ (2)) (fun (u : Unit) t9 => cpost D A [(h0, .inr (0, [.ref qsh, .ref qex, .ref qso])), (qo, .inl (kA, 1, .inr (.inl fo)))] [(kA, .long)] t9) A
set_option maxHeartbeats 4000000 in
set_option maxRecDepth 100000 in
theorem c_Law_digits_x2 (l : Launch) (hst : l.stackTraces = false) (D : va_G) (Z : Nat → Nat) (hz9 : Nat) (h0 : Nat) (qsh : Nat) (qex : Nat) (qso : Nat) (qo : Nat) (kA : ClassId) (fo : Nat → Int64) (b : Nat) (nw : Bool) (hb9 : b < 18446744073709551616) (hok : nw = true → b < 4294967296) (hnf : ¬ fSz b nw < fI nw) : Met l y_Law_digits (.codeWith y_Law_digits b_Law_digits 6 (some .int) [(0, 10, 13, 13), (0, 10, 17, 22)] :: gT) ({ frames := 8, cells := 1, slots := 6, locals := 127 } : Room) (va_Pc [.ref h0, .long (lN (b)), .int (bZ (nw = true)), .ref qo] (cpre D Z [(h0, .inr (0, [.ref qsh, .ref qex, .ref qso])), (qo, .inl (kA, 1, .inr (.inl fo)))] [(kA, .long)] hz9)) (Qc_Law_digits_x2 D h0 qsh qex qso qo kA fo b nw (va_A [(h0, .inr (0, [.ref qsh, .ref qex, .ref qso])), (qo, .inl (kA, 1, .inr (.inl fo)))] hz9)) 1 6 (va_A [(h0, .inr (0, [.ref qsh, .ref qex, .ref qso])), (qo, .inl (kA, 1, .inr (.inl fo)))] hz9) := by
  refine met_goH (Qf := Qc_Law_digits_x2 D h0 qsh qex qso qo kA fo b nw) (ff := fun A => A) (by decide) ?_
  intro p e s m below meth c A C0 hTab hsz9 hA hE hK hP hD
  obtain ⟨hx, hb, hml, hown, hts, hr, hlocks⟩ := id C0
  have hS : va_S A s.heap s.heap [] := va_S.rf
  have hl := lv_entry [.ref h0, .long (lN (b)), .int (bZ (nw = true)), .ref qo] (n := 6) (Nat.le_of_ble_eq_true rfl)
  rw [lg_entry_eq]
  generalize (lg_sl [.ref h0, .long (lN (b)), .int (bZ (nw = true)), .ref qo] ++ List.replicate (6 - (lg_sl [.ref h0, .long (lN (b)), .int (bZ (nw = true)), .ref qo]).length) Slot.unset).toArray = ls at hl ⊢
  have hl : lv_has ls 6 [(0, .ref h0), (1, .long (lN (b))), (3, .int (bZ (nw = true))), (4, .ref qo)] := hl
  refine lv_aload hx hb d_Law_digits_0 (lv_at hl 3 rfl) ?_
  refine lv_iconst (v := iZ (0)) hx hb d_Law_digits_2 rfl ?_
  refine lv_aload_n hx hb d_Law_digits_3 rfl (lv_at hl 0 rfl) ?_
  refine lv_lload_n hx hb d_Law_digits_4 rfl (lv_at hl 1 rfl) ?_
  refine lv_iload_n hx hb d_Law_digits_5 rfl (lv_at hl 2 rfl) ?_
  refine kx_l (ws := [(h0, .inr (0, [.ref qsh, .ref qex, .ref qso])), (qo, .inl (kA, 1, .inr (.inl fo)))]) (kx_V (C0 := R_FW) (ci := 0) (i0 := 0) (As := [.long (lN (b)), .int (bZ (nw = true))]) (rest := [.int (iZ (0)), .ref qo]) C0 (c_FW_digits_x2 l hst D Z _ h0 qsh qex qso b nw (by assumption) (by assumption) (by assumption)) q_y_FW_digits kw_425_ kw_424_ kw_426_ kw_3_ hd_y_FW_digits rfl rfl ⟨Nat.le_of_ble_eq_true rfl, Nat.le_of_ble_eq_true rfl⟩ (hP.sub (ws' := [(h0, .inr (0, [.ref qsh, .ref qex, .ref qso]))]) [0] rfl) (hD.sub (ws' := [(h0, .inr (0, [.ref qsh, .ref qex, .ref qso]))]) [0] (by decide) rfl) (hK.sub (tys' := []) [] rfl) hE hS (va_free (wc := [(h0, .inr (0, [.ref qsh, .ref qex, .ref qso]))]) hD hS hA [0] rfl) rfl rfl rfl hl.1 rfl (Nat.le_of_ble_eq_true rfl) d_Law_digits_6 ⟨Nat.le_of_ble_eq_true rfl, Nat.le_of_ble_eq_true rfl⟩) hP hS (fun ce q9 H locs hP hS hce hcv hcl => ?_)
  refine cat_1 (hh := [(0, 10, 13, 13), (0, 10, 17, 22)]) (x0 := (0, 10, 13, 13)) (x1 := (0, 10, 17, 22)) (suf := []) C0 hTab rfl (by decide) (by decide) (by decide) kw_413_ hE.nc kw_420_ (nw_at hE _ (List.mem_of_getElem? (i := 11) rfl)) hce hcv hcl ?_
  refine lv_astore (lv' := [(5, .ref q9), (0, .ref h0), (1, .long (lN (b))), (3, .int (bZ (nw = true))), (4, .ref qo)]) hx hb d_Law_digits_17 hl (by decide) rfl (fun ls hl => ?_)
  refine lv_iconst (v := iZ (2)) hx hb d_Law_digits_19 rfl ?_
  exact ew_i () hx hb hr hlocks d_Law_digits_20 (show iZ (2) = iZ (2) from rfl) (hP.sub (ws' := [(h0, .inr (0, [.ref qsh, .ref qex, .ref qso])), (qo, .inl (kA, 1, .inr (.inl fo)))]) [0, 1] rfl) (hD.sub (ws' := [(h0, .inr (0, [.ref qsh, .ref qex, .ref qso])), (qo, .inl (kA, 1, .inr (.inl fo)))]) [0, 1] (by decide) rfl) (hK.sub (tys' := [(kA, .long)]) [0] rfl) hS (Nat.le_of_ble_eq_true rfl) (Nat.le_of_ble_eq_true rfl)
abbrev Qc_Law_power_x1 (D : va_G) (h0 : Nat) (qsh : Nat) (qex : Nat) (qso : Nat) (qo : Nat) (kA : ClassId) (fo : Nat → Int64) (b : Nat) (nw : Bool) (A : Nat → Prop) : Array Value → State → Outcome → State → Prop := va_Qi (fun (r : Int32) (u : Unit) => r = iZ (1)) (fun (u : Unit) t9 => cpost D A [(h0, .inr (0, [.ref qsh, .ref qex, .ref qso])), (qo, .inl (kA, 1, .inr (.inl fo)))] [(kA, .long)] t9) A
set_option maxHeartbeats 4000000 in
set_option maxRecDepth 100000 in
theorem c_Law_power_x1 (l : Launch) (hst : l.stackTraces = false) (D : va_G) (Z : Nat → Nat) (hz9 : Nat) (h0 : Nat) (qsh : Nat) (qex : Nat) (qso : Nat) (qo : Nat) (kA : ClassId) (fo : Nat → Int64) (b : Nat) (nw : Bool) (hb9 : b < 18446744073709551616) (hwr : nw = true ∧ ¬ b < 4294967296) : Met l y_Law_power (.codeWith y_Law_power b_Law_power 6 (some .int) [(0, 11, 14, 13), (0, 11, 18, 22)] :: gT) ({ frames := 8, cells := 1, slots := 6, locals := 127 } : Room) (va_Pc [.ref h0, .long (lN (b)), .int (bZ (nw = true)), .ref qo] (cpre D Z [(h0, .inr (0, [.ref qsh, .ref qex, .ref qso])), (qo, .inl (kA, 1, .inr (.inl fo)))] [(kA, .long)] hz9)) (Qc_Law_power_x1 D h0 qsh qex qso qo kA fo b nw (va_A [(h0, .inr (0, [.ref qsh, .ref qex, .ref qso])), (qo, .inl (kA, 1, .inr (.inl fo)))] hz9)) 1 6 (va_A [(h0, .inr (0, [.ref qsh, .ref qex, .ref qso])), (qo, .inl (kA, 1, .inr (.inl fo)))] hz9) := by
  refine met_goH (Qf := Qc_Law_power_x1 D h0 qsh qex qso qo kA fo b nw) (ff := fun A => A) (by decide) ?_
  intro p e s m below meth c A C0 hTab hsz9 hA hE hK hP hD
  obtain ⟨hx, hb, hml, hown, hts, hr, hlocks⟩ := id C0
  have hS : va_S A s.heap s.heap [] := va_S.rf
  have hl := lv_entry [.ref h0, .long (lN (b)), .int (bZ (nw = true)), .ref qo] (n := 6) (Nat.le_of_ble_eq_true rfl)
  rw [lg_entry_eq]
  generalize (lg_sl [.ref h0, .long (lN (b)), .int (bZ (nw = true)), .ref qo] ++ List.replicate (6 - (lg_sl [.ref h0, .long (lN (b)), .int (bZ (nw = true)), .ref qo]).length) Slot.unset).toArray = ls at hl ⊢
  have hl : lv_has ls 6 [(0, .ref h0), (1, .long (lN (b))), (3, .int (bZ (nw = true))), (4, .ref qo)] := hl
  refine lv_aload hx hb d_Law_power_0 (lv_at hl 3 rfl) ?_
  refine lv_iconst (v := iZ (0)) hx hb d_Law_power_2 rfl ?_
  refine lv_aload_n hx hb d_Law_power_3 rfl (lv_at hl 0 rfl) ?_
  refine lv_lload_n hx hb d_Law_power_4 rfl (lv_at hl 1 rfl) ?_
  refine lv_iload_n hx hb d_Law_power_5 rfl (lv_at hl 2 rfl) ?_
  refine kx_i (ws := [(h0, .inr (0, [.ref qsh, .ref qex, .ref qso])), (qo, .inl (kA, 1, .inr (.inl fo)))]) (kx_V (C0 := R_FW) (ci := 0) (i0 := 0) (As := [.long (lN (b)), .int (bZ (nw = true))]) (rest := [.int (iZ (0)), .ref qo]) C0 (c_FW_power_x1 l hst D Z _ h0 qsh qex qso b nw (by assumption) (by assumption)) q_y_FW_power kw_428_ kw_427_ kw_429_ kw_3_ hd_y_FW_power rfl rfl ⟨Nat.le_of_ble_eq_true rfl, Nat.le_of_ble_eq_true rfl⟩ (hP.sub (ws' := [(h0, .inr (0, [.ref qsh, .ref qex, .ref qso]))]) [0] rfl) (hD.sub (ws' := [(h0, .inr (0, [.ref qsh, .ref qex, .ref qso]))]) [0] (by decide) rfl) (hK.sub (tys' := []) [] rfl) hE hS (va_free (wc := [(h0, .inr (0, [.ref qsh, .ref qex, .ref qso]))]) hD hS hA [0] rfl) rfl rfl rfl hl.1 rfl (Nat.le_of_ble_eq_true rfl) d_Law_power_6 ⟨Nat.le_of_ble_eq_true rfl, Nat.le_of_ble_eq_true rfl⟩) hP hS (fun ce q9 H locs hP hS hce hcv hcl => ?_)
  refine cat_0 (hh := [(0, 11, 14, 13), (0, 11, 18, 22)]) (x1 := (0, 11, 14, 13)) (suf := [(0, 11, 18, 22)]) C0 hTab rfl (by decide) (by decide) kw_413_ (nw_at hE _ (List.mem_of_getElem? (i := 10) rfl)) hce hcv hcl ?_
  refine lv_astore (lv' := [(5, .ref q9), (0, .ref h0), (1, .long (lN (b))), (3, .int (bZ (nw = true))), (4, .ref qo)]) hx hb d_Law_power_14 hl (by decide) rfl (fun ls hl => ?_)
  refine lv_iconst (v := iZ (1)) hx hb d_Law_power_16 rfl ?_
  exact ew_i () hx hb hr hlocks d_Law_power_17 (show iZ (1) = iZ (1) from rfl) (hP.sub (ws' := [(h0, .inr (0, [.ref qsh, .ref qex, .ref qso])), (qo, .inl (kA, 1, .inr (.inl fo)))]) [0, 1] rfl) (hD.sub (ws' := [(h0, .inr (0, [.ref qsh, .ref qex, .ref qso])), (qo, .inl (kA, 1, .inr (.inl fo)))]) [0, 1] (by decide) rfl) (hK.sub (tys' := [(kA, .long)]) [0] rfl) hS (Nat.le_of_ble_eq_true rfl) (Nat.le_of_ble_eq_true rfl)
abbrev Qc_Law_power_x2 (D : va_G) (h0 : Nat) (qsh : Nat) (qex : Nat) (qso : Nat) (qo : Nat) (kA : ClassId) (fo : Nat → Int64) (b : Nat) (nw : Bool) (A : Nat → Prop) : Array Value → State → Outcome → State → Prop := va_Qi (fun (r : Int32) (u : Unit) => r = iZ (2)) (fun (u : Unit) t9 => cpost D A [(h0, .inr (0, [.ref qsh, .ref qex, .ref qso])), (qo, .inl (kA, 1, .inr (.inl fo)))] [(kA, .long)] t9) A
set_option maxHeartbeats 4000000 in
set_option maxRecDepth 100000 in
theorem c_Law_power_x2 (l : Launch) (hst : l.stackTraces = false) (D : va_G) (Z : Nat → Nat) (hz9 : Nat) (h0 : Nat) (qsh : Nat) (qex : Nat) (qso : Nat) (qo : Nat) (kA : ClassId) (fo : Nat → Int64) (b : Nat) (nw : Bool) (hb9 : b < 18446744073709551616) (hok : nw = true → b < 4294967296) (hnf : ¬ fSz b nw < fI nw) : Met l y_Law_power (.codeWith y_Law_power b_Law_power 6 (some .int) [(0, 11, 14, 13), (0, 11, 18, 22)] :: gT) ({ frames := 8, cells := 1, slots := 6, locals := 127 } : Room) (va_Pc [.ref h0, .long (lN (b)), .int (bZ (nw = true)), .ref qo] (cpre D Z [(h0, .inr (0, [.ref qsh, .ref qex, .ref qso])), (qo, .inl (kA, 1, .inr (.inl fo)))] [(kA, .long)] hz9)) (Qc_Law_power_x2 D h0 qsh qex qso qo kA fo b nw (va_A [(h0, .inr (0, [.ref qsh, .ref qex, .ref qso])), (qo, .inl (kA, 1, .inr (.inl fo)))] hz9)) 1 6 (va_A [(h0, .inr (0, [.ref qsh, .ref qex, .ref qso])), (qo, .inl (kA, 1, .inr (.inl fo)))] hz9) := by
  refine met_goH (Qf := Qc_Law_power_x2 D h0 qsh qex qso qo kA fo b nw) (ff := fun A => A) (by decide) ?_
  intro p e s m below meth c A C0 hTab hsz9 hA hE hK hP hD
  obtain ⟨hx, hb, hml, hown, hts, hr, hlocks⟩ := id C0
  have hS : va_S A s.heap s.heap [] := va_S.rf
  have hl := lv_entry [.ref h0, .long (lN (b)), .int (bZ (nw = true)), .ref qo] (n := 6) (Nat.le_of_ble_eq_true rfl)
  rw [lg_entry_eq]
  generalize (lg_sl [.ref h0, .long (lN (b)), .int (bZ (nw = true)), .ref qo] ++ List.replicate (6 - (lg_sl [.ref h0, .long (lN (b)), .int (bZ (nw = true)), .ref qo]).length) Slot.unset).toArray = ls at hl ⊢
  have hl : lv_has ls 6 [(0, .ref h0), (1, .long (lN (b))), (3, .int (bZ (nw = true))), (4, .ref qo)] := hl
  refine lv_aload hx hb d_Law_power_0 (lv_at hl 3 rfl) ?_
  refine lv_iconst (v := iZ (0)) hx hb d_Law_power_2 rfl ?_
  refine lv_aload_n hx hb d_Law_power_3 rfl (lv_at hl 0 rfl) ?_
  refine lv_lload_n hx hb d_Law_power_4 rfl (lv_at hl 1 rfl) ?_
  refine lv_iload_n hx hb d_Law_power_5 rfl (lv_at hl 2 rfl) ?_
  refine kx_i (ws := [(h0, .inr (0, [.ref qsh, .ref qex, .ref qso])), (qo, .inl (kA, 1, .inr (.inl fo)))]) (kx_V (C0 := R_FW) (ci := 0) (i0 := 0) (As := [.long (lN (b)), .int (bZ (nw = true))]) (rest := [.int (iZ (0)), .ref qo]) C0 (c_FW_power_x2 l hst D Z _ h0 qsh qex qso b nw (by assumption) (by assumption) (by assumption)) q_y_FW_power kw_428_ kw_427_ kw_429_ kw_3_ hd_y_FW_power rfl rfl ⟨Nat.le_of_ble_eq_true rfl, Nat.le_of_ble_eq_true rfl⟩ (hP.sub (ws' := [(h0, .inr (0, [.ref qsh, .ref qex, .ref qso]))]) [0] rfl) (hD.sub (ws' := [(h0, .inr (0, [.ref qsh, .ref qex, .ref qso]))]) [0] (by decide) rfl) (hK.sub (tys' := []) [] rfl) hE hS (va_free (wc := [(h0, .inr (0, [.ref qsh, .ref qex, .ref qso]))]) hD hS hA [0] rfl) rfl rfl rfl hl.1 rfl (Nat.le_of_ble_eq_true rfl) d_Law_power_6 ⟨Nat.le_of_ble_eq_true rfl, Nat.le_of_ble_eq_true rfl⟩) hP hS (fun ce q9 H locs hP hS hce hcv hcl => ?_)
  refine cat_1 (hh := [(0, 11, 14, 13), (0, 11, 18, 22)]) (x0 := (0, 11, 14, 13)) (x1 := (0, 11, 18, 22)) (suf := []) C0 hTab rfl (by decide) (by decide) (by decide) kw_413_ hE.nc kw_420_ (nw_at hE _ (List.mem_of_getElem? (i := 11) rfl)) hce hcv hcl ?_
  refine lv_astore (lv' := [(5, .ref q9), (0, .ref h0), (1, .long (lN (b))), (3, .int (bZ (nw = true))), (4, .ref qo)]) hx hb d_Law_power_18 hl (by decide) rfl (fun ls hl => ?_)
  refine lv_iconst (v := iZ (2)) hx hb d_Law_power_20 rfl ?_
  exact ew_i () hx hb hr hlocks d_Law_power_21 (show iZ (2) = iZ (2) from rfl) (hP.sub (ws' := [(h0, .inr (0, [.ref qsh, .ref qex, .ref qso])), (qo, .inl (kA, 1, .inr (.inl fo)))]) [0, 1] rfl) (hD.sub (ws' := [(h0, .inr (0, [.ref qsh, .ref qex, .ref qso])), (qo, .inl (kA, 1, .inr (.inl fo)))]) [0, 1] (by decide) rfl) (hK.sub (tys' := [(kA, .long)]) [0] rfl) hS (Nat.le_of_ble_eq_true rfl) (Nat.le_of_ble_eq_true rfl)
abbrev Qc_Law_next_x (D : va_G) (h0 : Nat) (qsh : Nat) (qex : Nat) (qso : Nat) (qo : Nat) (kA : ClassId) (fo : Nat → Int64) (b : Nat) (nw : Bool) (up : Bool) (A : Nat → Prop) : Array Value → State → Outcome → State → Prop := va_Qi (fun (r : Int32) (u : Unit) => r = iZ (1)) (fun (u : Unit) t9 => cpost D A [(h0, .inr (0, [.ref qsh, .ref qex, .ref qso])), (qo, .inl (kA, 1, .inr (.inl fo)))] [(kA, .long)] t9) A
set_option maxHeartbeats 4000000 in
set_option maxRecDepth 100000 in
theorem c_Law_next_x (l : Launch) (hst : l.stackTraces = false) (D : va_G) (Z : Nat → Nat) (hz9 : Nat) (h0 : Nat) (qsh : Nat) (qex : Nat) (qso : Nat) (qo : Nat) (kA : ClassId) (fo : Nat → Int64) (b : Nat) (nw : Bool) (up : Bool) (hb9 : b < 18446744073709551616) (hwr : nw = true ∧ ¬ b < 4294967296) : Met l y_Law_next (.codeWith y_Law_next b_Law_next 7 (some .int) [(0, 12, 15, 13)] :: gT) ({ frames := 8, cells := 1, slots := 6, locals := 131 } : Room) (va_Pc [.ref h0, .long (lN (b)), .int (bZ (nw = true)), .int (bZ (up = true)), .ref qo] (cpre D Z [(h0, .inr (0, [.ref qsh, .ref qex, .ref qso])), (qo, .inl (kA, 1, .inr (.inl fo)))] [(kA, .long)] hz9)) (Qc_Law_next_x D h0 qsh qex qso qo kA fo b nw up (va_A [(h0, .inr (0, [.ref qsh, .ref qex, .ref qso])), (qo, .inl (kA, 1, .inr (.inl fo)))] hz9)) 1 6 (va_A [(h0, .inr (0, [.ref qsh, .ref qex, .ref qso])), (qo, .inl (kA, 1, .inr (.inl fo)))] hz9) := by
  refine met_goH (Qf := Qc_Law_next_x D h0 qsh qex qso qo kA fo b nw up) (ff := fun A => A) (by decide) ?_
  intro p e s m below meth c A C0 hTab hsz9 hA hE hK hP hD
  obtain ⟨hx, hb, hml, hown, hts, hr, hlocks⟩ := id C0
  have hS : va_S A s.heap s.heap [] := va_S.rf
  have hl := lv_entry [.ref h0, .long (lN (b)), .int (bZ (nw = true)), .int (bZ (up = true)), .ref qo] (n := 7) (Nat.le_of_ble_eq_true rfl)
  rw [lg_entry_eq]
  generalize (lg_sl [.ref h0, .long (lN (b)), .int (bZ (nw = true)), .int (bZ (up = true)), .ref qo] ++ List.replicate (7 - (lg_sl [.ref h0, .long (lN (b)), .int (bZ (nw = true)), .int (bZ (up = true)), .ref qo]).length) Slot.unset).toArray = ls at hl ⊢
  have hl : lv_has ls 7 [(0, .ref h0), (1, .long (lN (b))), (3, .int (bZ (nw = true))), (4, .int (bZ (up = true))), (5, .ref qo)] := hl
  refine lv_aload hx hb d_Law_next_0 (lv_at hl 4 rfl) ?_
  refine lv_iconst (v := iZ (0)) hx hb d_Law_next_2 rfl ?_
  refine lv_aload_n hx hb d_Law_next_3 rfl (lv_at hl 0 rfl) ?_
  refine lv_lload_n hx hb d_Law_next_4 rfl (lv_at hl 1 rfl) ?_
  refine lv_iload_n hx hb d_Law_next_5 rfl (lv_at hl 2 rfl) ?_
  refine lv_iload hx hb d_Law_next_6 (lv_at hl 3 rfl) ?_
  refine kx_l (ws := [(h0, .inr (0, [.ref qsh, .ref qex, .ref qso])), (qo, .inl (kA, 1, .inr (.inl fo)))]) (kx_V (C0 := R_FW) (ci := 0) (i0 := 0) (As := [.long (lN (b)), .int (bZ (nw = true)), .int (bZ (up = true))]) (rest := [.int (iZ (0)), .ref qo]) C0 (c_FW_next_x l hst D Z _ h0 qsh qex qso b nw up (by assumption) (by assumption)) q_y_FW_next kw_431_ kw_430_ kw_432_ kw_3_ hd_y_FW_next rfl rfl ⟨Nat.le_of_ble_eq_true rfl, Nat.le_of_ble_eq_true rfl⟩ (hP.sub (ws' := [(h0, .inr (0, [.ref qsh, .ref qex, .ref qso]))]) [0] rfl) (hD.sub (ws' := [(h0, .inr (0, [.ref qsh, .ref qex, .ref qso]))]) [0] (by decide) rfl) (hK.sub (tys' := []) [] rfl) hE hS (va_free (wc := [(h0, .inr (0, [.ref qsh, .ref qex, .ref qso]))]) hD hS hA [0] rfl) rfl rfl rfl hl.1 rfl (Nat.le_of_ble_eq_true rfl) d_Law_next_8 ⟨Nat.le_of_ble_eq_true rfl, Nat.le_of_ble_eq_true rfl⟩) hP hS (fun ce q9 H locs hP hS hce hcv hcl => ?_)
  refine cat_0 (hh := [(0, 12, 15, 13)]) (x1 := (0, 12, 15, 13)) (suf := []) C0 hTab rfl (by decide) (by decide) kw_413_ (nw_at hE _ (List.mem_of_getElem? (i := 10) rfl)) hce hcv hcl ?_
  refine lv_astore (lv' := [(6, .ref q9), (0, .ref h0), (1, .long (lN (b))), (3, .int (bZ (nw = true))), (4, .int (bZ (up = true))), (5, .ref qo)]) hx hb d_Law_next_15 hl (by decide) rfl (fun ls hl => ?_)
  refine lv_iconst (v := iZ (1)) hx hb d_Law_next_17 rfl ?_
  exact ew_i () hx hb hr hlocks d_Law_next_18 (show iZ (1) = iZ (1) from rfl) (hP.sub (ws' := [(h0, .inr (0, [.ref qsh, .ref qex, .ref qso])), (qo, .inl (kA, 1, .inr (.inl fo)))]) [0, 1] rfl) (hD.sub (ws' := [(h0, .inr (0, [.ref qsh, .ref qex, .ref qso])), (qo, .inl (kA, 1, .inr (.inl fo)))]) [0, 1] (by decide) rfl) (hK.sub (tys' := [(kA, .long)]) [0] rfl) hS (Nat.le_of_ble_eq_true rfl) (Nat.le_of_ble_eq_true rfl)
abbrev Qc_Law_widened_x (D : va_G) (h0 : Nat) (qsh : Nat) (qex : Nat) (qso : Nat) (qo : Nat) (kA : ClassId) (fo : Nat → Int64) (b : Nat) (A : Nat → Prop) : Array Value → State → Outcome → State → Prop := va_Qi (fun (r : Int32) (u : Unit) => r = iZ (1)) (fun (u : Unit) t9 => cpost D A [(h0, .inr (0, [.ref qsh, .ref qex, .ref qso])), (qo, .inl (kA, 1, .inr (.inl fo)))] [(kA, .long)] t9) A
set_option maxHeartbeats 4000000 in
set_option maxRecDepth 100000 in
theorem c_Law_widened_x (l : Launch) (hst : l.stackTraces = false) (D : va_G) (Z : Nat → Nat) (hz9 : Nat) (h0 : Nat) (qsh : Nat) (qex : Nat) (qso : Nat) (qo : Nat) (kA : ClassId) (fo : Nat → Int64) (b : Nat) (hb9 : b < 18446744073709551616) (hno : ¬ b < 4294967296) : Met l y_Law_widened (.codeWith y_Law_widened b_Law_widened 5 (some .int) [(0, 8, 11, 13)] :: gT) ({ frames := 8, cells := 1, slots := 6, locals := 130 } : Room) (va_Pc [.ref h0, .long (lN (b)), .ref qo] (cpre D Z [(h0, .inr (0, [.ref qsh, .ref qex, .ref qso])), (qo, .inl (kA, 1, .inr (.inl fo)))] [(kA, .long)] hz9)) (Qc_Law_widened_x D h0 qsh qex qso qo kA fo b (va_A [(h0, .inr (0, [.ref qsh, .ref qex, .ref qso])), (qo, .inl (kA, 1, .inr (.inl fo)))] hz9)) 1 6 (va_A [(h0, .inr (0, [.ref qsh, .ref qex, .ref qso])), (qo, .inl (kA, 1, .inr (.inl fo)))] hz9) := by
  refine met_goH (Qf := Qc_Law_widened_x D h0 qsh qex qso qo kA fo b) (ff := fun A => A) (by decide) ?_
  intro p e s m below meth c A C0 hTab hsz9 hA hE hK hP hD
  obtain ⟨hx, hb, hml, hown, hts, hr, hlocks⟩ := id C0
  have hS : va_S A s.heap s.heap [] := va_S.rf
  have hl := lv_entry [.ref h0, .long (lN (b)), .ref qo] (n := 5) (Nat.le_of_ble_eq_true rfl)
  rw [lg_entry_eq]
  generalize (lg_sl [.ref h0, .long (lN (b)), .ref qo] ++ List.replicate (5 - (lg_sl [.ref h0, .long (lN (b)), .ref qo]).length) Slot.unset).toArray = ls at hl ⊢
  have hl : lv_has ls 5 [(0, .ref h0), (1, .long (lN (b))), (3, .ref qo)] := hl
  refine lv_aload_n hx hb d_Law_widened_0 rfl (lv_at hl 2 rfl) ?_
  refine lv_iconst (v := iZ (0)) hx hb d_Law_widened_1 rfl ?_
  refine lv_aload_n hx hb d_Law_widened_2 rfl (lv_at hl 0 rfl) ?_
  refine lv_lload_n hx hb d_Law_widened_3 rfl (lv_at hl 1 rfl) ?_
  refine kx_l (ws := [(h0, .inr (0, [.ref qsh, .ref qex, .ref qso])), (qo, .inl (kA, 1, .inr (.inl fo)))]) (kx_V (C0 := R_FW) (ci := 0) (i0 := 0) (As := [.long (lN (b))]) (rest := [.int (iZ (0)), .ref qo]) C0 (c_FW_widened_x l hst D Z _ h0 qsh qex qso b (by assumption) (by assumption)) q_y_FW_widened kw_434_ kw_433_ kw_435_ kw_3_ hd_y_FW_widened rfl rfl ⟨Nat.le_of_ble_eq_true rfl, Nat.le_of_ble_eq_true rfl⟩ (hP.sub (ws' := [(h0, .inr (0, [.ref qsh, .ref qex, .ref qso]))]) [0] rfl) (hD.sub (ws' := [(h0, .inr (0, [.ref qsh, .ref qex, .ref qso]))]) [0] (by decide) rfl) (hK.sub (tys' := []) [] rfl) hE hS (va_free (wc := [(h0, .inr (0, [.ref qsh, .ref qex, .ref qso]))]) hD hS hA [0] rfl) rfl rfl rfl hl.1 rfl (Nat.le_of_ble_eq_true rfl) d_Law_widened_4 ⟨Nat.le_of_ble_eq_true rfl, Nat.le_of_ble_eq_true rfl⟩) hP hS (fun ce q9 H locs hP hS hce hcv hcl => ?_)
  refine cat_0 (hh := [(0, 8, 11, 13)]) (x1 := (0, 8, 11, 13)) (suf := []) C0 hTab rfl (by decide) (by decide) kw_413_ (nw_at hE _ (List.mem_of_getElem? (i := 10) rfl)) hce hcv hcl ?_
  refine lv_astore (lv' := [(4, .ref q9), (0, .ref h0), (1, .long (lN (b))), (3, .ref qo)]) hx hb d_Law_widened_11 hl (by decide) rfl (fun ls hl => ?_)
  refine lv_iconst (v := iZ (1)) hx hb d_Law_widened_13 rfl ?_
  exact ew_i () hx hb hr hlocks d_Law_widened_14 (show iZ (1) = iZ (1) from rfl) (hP.sub (ws' := [(h0, .inr (0, [.ref qsh, .ref qex, .ref qso])), (qo, .inl (kA, 1, .inr (.inl fo)))]) [0, 1] rfl) (hD.sub (ws' := [(h0, .inr (0, [.ref qsh, .ref qex, .ref qso])), (qo, .inl (kA, 1, .inr (.inl fo)))]) [0, 1] (by decide) rfl) (hK.sub (tys' := [(kA, .long)]) [0] rfl) hS (Nat.le_of_ble_eq_true rfl) (Nat.le_of_ble_eq_true rfl)
