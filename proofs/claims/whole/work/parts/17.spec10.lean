theorem kw_118_ : Cond.static y_FW_significand ∈ gT := gT_in 173 (by decide +kernel) (by decide +kernel)
theorem kw_119_ : Cond.methodLink R_FW 64 y_FW_significand ∈ gT := gT_in 172 (by decide +kernel) (by decide +kernel)
theorem kw_120_ : Cond.methodLink R_FW 165 Lib.Math.min.name ∈ gT := gT_in 178 (by decide +kernel) (by decide +kernel)
theorem kw_121_ : Cond.static y_FW_halvedToEven ∈ gT := gT_in 167 (by decide +kernel) (by decide +kernel)
theorem kw_122_ : Cond.methodLink R_FW 157 y_FW_halvedToEven ∈ gT := gT_in 166 (by decide +kernel) (by decide +kernel)
theorem kw_123_ : Cond.constantLong R_FW 155 (4035225266123964416) ∈ gT := gT_in 165 (by decide +kernel) (by decide +kernel)
theorem kw_124_ : Cond.methodLink R_FW 161 Lib.MathLoose.min_long.x ∈ gT := gT_in 169 (by decide +kernel) (by decide +kernel)
theorem kw_125_ : Cond.static Lib.MathLoose.min_long.x ∈ gT := gT_in 170 (by decide +kernel) (by decide +kernel)
set_option maxRecDepth 100000 in
theorem q_y_FW_significand : Cond.code y_FW_significand b_FW_significand 5 (some .long) ∈ gT := gT_in 174 rfl rfl
set_option maxRecDepth 100000 in
theorem q_y_FW_halvedToEven : Cond.code y_FW_halvedToEven b_FW_halvedToEven 10 (some .long) ∈ gT := gT_in 168 rfl rfl
theorem q_Lib_MathLoose_min_long_x : Cond.code Lib.MathLoose.min_long.x Lib.MathLoose.min_long.code 4 (some .long) ∈ gT := gT_in 171 (by decide +kernel) rfl
theorem hd_y_FW_significand : y_FW_significand.cls ≠ "java/lang/invoke/MethodHandle" ∧ y_FW_significand.cls ≠ "java/lang/invoke/VarHandle" ∧ (parseMethodDescriptor y_FW_significand.desc).map (fun d => d.parameters.length) = some 2 := by decide +kernel
theorem hd_y_FW_halvedToEven : y_FW_halvedToEven.cls ≠ "java/lang/invoke/MethodHandle" ∧ y_FW_halvedToEven.cls ≠ "java/lang/invoke/VarHandle" ∧ (parseMethodDescriptor y_FW_halvedToEven.desc).map (fun d => d.parameters.length) = some 2 := by decide +kernel
theorem d_FW_halvedToEven_0 : decode b_FW_halvedToEven 0 = .ok (.lload_n 0, 1) := by decide +kernel
theorem d_FW_halvedToEven_1 : decode b_FW_halvedToEven 1 = .ok (.iload_n 2, 1) := by decide +kernel
theorem d_FW_halvedToEven_2 : decode b_FW_halvedToEven 2 = .ok (.lushr, 1) := by decide +kernel
theorem d_FW_halvedToEven_3 : decode b_FW_halvedToEven 3 = .ok (.lstore_n 3, 1) := by decide +kernel
theorem d_FW_halvedToEven_4 : decode b_FW_halvedToEven 4 = .ok (.lload_n 0, 1) := by decide +kernel
theorem d_FW_halvedToEven_5 : decode b_FW_halvedToEven 5 = .ok (.lconst 1, 1) := by decide +kernel
theorem d_FW_halvedToEven_6 : decode b_FW_halvedToEven 6 = .ok (.iload_n 2, 1) := by decide +kernel
theorem d_FW_halvedToEven_7 : decode b_FW_halvedToEven 7 = .ok (.lshl, 1) := by decide +kernel
theorem d_FW_halvedToEven_8 : decode b_FW_halvedToEven 8 = .ok (.lconst 1, 1) := by decide +kernel
theorem d_FW_halvedToEven_9 : decode b_FW_halvedToEven 9 = .ok (.lsub, 1) := by decide +kernel
theorem d_FW_halvedToEven_10 : decode b_FW_halvedToEven 10 = .ok (.land, 1) := by decide +kernel
theorem d_FW_halvedToEven_11 : decode b_FW_halvedToEven 11 = .ok (.lstore 5, 2) := by decide +kernel
theorem d_FW_halvedToEven_13 : decode b_FW_halvedToEven 13 = .ok (.lconst 1, 1) := by decide +kernel
theorem d_FW_halvedToEven_14 : decode b_FW_halvedToEven 14 = .ok (.iload_n 2, 1) := by decide +kernel
theorem d_FW_halvedToEven_15 : decode b_FW_halvedToEven 15 = .ok (.iconst 1, 1) := by decide +kernel
theorem d_FW_halvedToEven_16 : decode b_FW_halvedToEven 16 = .ok (.isub, 1) := by decide +kernel
theorem d_FW_halvedToEven_17 : decode b_FW_halvedToEven 17 = .ok (.lshl, 1) := by decide +kernel
theorem d_FW_halvedToEven_18 : decode b_FW_halvedToEven 18 = .ok (.lstore 7, 2) := by decide +kernel
theorem d_FW_halvedToEven_20 : decode b_FW_halvedToEven 20 = .ok (.lload 5, 2) := by decide +kernel
theorem d_FW_halvedToEven_22 : decode b_FW_halvedToEven 22 = .ok (.lload 7, 2) := by decide +kernel
theorem d_FW_halvedToEven_24 : decode b_FW_halvedToEven 24 = .ok (.lcmp, 1) := by decide +kernel
theorem d_FW_halvedToEven_25 : decode b_FW_halvedToEven 25 = .ok (.ifCond .gt 19, 3) := by decide +kernel
theorem d_FW_halvedToEven_28 : decode b_FW_halvedToEven 28 = .ok (.lload 5, 2) := by decide +kernel
theorem d_FW_halvedToEven_30 : decode b_FW_halvedToEven 30 = .ok (.lload 7, 2) := by decide +kernel
theorem d_FW_halvedToEven_32 : decode b_FW_halvedToEven 32 = .ok (.lcmp, 1) := by decide +kernel
theorem d_FW_halvedToEven_33 : decode b_FW_halvedToEven 33 = .ok (.ifCond .ne 15, 3) := by decide +kernel
theorem d_FW_halvedToEven_36 : decode b_FW_halvedToEven 36 = .ok (.lload_n 3, 1) := by decide +kernel
theorem d_FW_halvedToEven_37 : decode b_FW_halvedToEven 37 = .ok (.lconst 1, 1) := by decide +kernel
theorem d_FW_halvedToEven_38 : decode b_FW_halvedToEven 38 = .ok (.land, 1) := by decide +kernel
theorem d_FW_halvedToEven_39 : decode b_FW_halvedToEven 39 = .ok (.lconst 1, 1) := by decide +kernel
theorem d_FW_halvedToEven_40 : decode b_FW_halvedToEven 40 = .ok (.lcmp, 1) := by decide +kernel
theorem d_FW_halvedToEven_41 : decode b_FW_halvedToEven 41 = .ok (.ifCond .ne 7, 3) := by decide +kernel
theorem d_FW_halvedToEven_44 : decode b_FW_halvedToEven 44 = .ok (.iconst 1, 1) := by decide +kernel
theorem d_FW_halvedToEven_45 : decode b_FW_halvedToEven 45 = .ok (.goto 4, 3) := by decide +kernel
theorem d_FW_halvedToEven_48 : decode b_FW_halvedToEven 48 = .ok (.iconst 0, 1) := by decide +kernel
theorem d_FW_halvedToEven_49 : decode b_FW_halvedToEven 49 = .ok (.istore 9, 2) := by decide +kernel
theorem d_FW_halvedToEven_51 : decode b_FW_halvedToEven 51 = .ok (.iload 9, 2) := by decide +kernel
theorem d_FW_halvedToEven_53 : decode b_FW_halvedToEven 53 = .ok (.ifCond .eq 9, 3) := by decide +kernel
theorem d_FW_halvedToEven_56 : decode b_FW_halvedToEven 56 = .ok (.lload_n 3, 1) := by decide +kernel
theorem d_FW_halvedToEven_57 : decode b_FW_halvedToEven 57 = .ok (.lconst 1, 1) := by decide +kernel
theorem d_FW_halvedToEven_58 : decode b_FW_halvedToEven 58 = .ok (.ladd, 1) := by decide +kernel
theorem d_FW_halvedToEven_59 : decode b_FW_halvedToEven 59 = .ok (.goto 4, 3) := by decide +kernel
theorem d_FW_halvedToEven_62 : decode b_FW_halvedToEven 62 = .ok (.lload_n 3, 1) := by decide +kernel
theorem d_FW_halvedToEven_63 : decode b_FW_halvedToEven 63 = .ok (.lreturn, 1) := by decide +kernel
theorem d_FW_narrowedSize_0 : decode b_FW_narrowedSize 0 = .ok (.lload_n 0, 1) := by decide +kernel
theorem d_FW_narrowedSize_1 : decode b_FW_narrowedSize 1 = .ok (.ldc2_w 110, 3) := by decide +kernel
theorem d_FW_narrowedSize_4 : decode b_FW_narrowedSize 4 = .ok (.lcmp, 1) := by decide +kernel
theorem d_FW_narrowedSize_5 : decode b_FW_narrowedSize 5 = .ok (.ifCond .ne 7, 3) := by decide +kernel
theorem d_FW_narrowedSize_8 : decode b_FW_narrowedSize 8 = .ok (.ldc2_w 118, 3) := by decide +kernel
theorem d_FW_narrowedSize_11 : decode b_FW_narrowedSize 11 = .ok (.lreturn, 1) := by decide +kernel
theorem d_FW_narrowedSize_12 : decode b_FW_narrowedSize 12 = .ok (.bipush 29, 2) := by decide +kernel
theorem d_FW_narrowedSize_14 : decode b_FW_narrowedSize 14 = .ok (.istore_n 2, 1) := by decide +kernel
theorem d_FW_narrowedSize_15 : decode b_FW_narrowedSize 15 = .ok (.lload_n 0, 1) := by decide +kernel
theorem d_FW_narrowedSize_16 : decode b_FW_narrowedSize 16 = .ok (.iconst 0, 1) := by decide +kernel
theorem d_FW_narrowedSize_17 : decode b_FW_narrowedSize 17 = .ok (.invokestatic 143, 3) := by decide +kernel
theorem d_FW_narrowedSize_20 : decode b_FW_narrowedSize 20 = .ok (.sipush 896, 3) := by decide +kernel
theorem d_FW_narrowedSize_23 : decode b_FW_narrowedSize 23 = .ok (.isub, 1) := by decide +kernel
theorem d_FW_narrowedSize_24 : decode b_FW_narrowedSize 24 = .ok (.istore_n 3, 1) := by decide +kernel
theorem d_FW_narrowedSize_25 : decode b_FW_narrowedSize 25 = .ok (.iload_n 3, 1) := by decide +kernel
theorem d_FW_narrowedSize_26 : decode b_FW_narrowedSize 26 = .ok (.ifCond .le 23, 3) := by decide +kernel
theorem d_FW_narrowedSize_29 : decode b_FW_narrowedSize 29 = .ok (.lload_n 0, 1) := by decide +kernel
theorem d_FW_narrowedSize_30 : decode b_FW_narrowedSize 30 = .ok (.ldc2_w 155, 3) := by decide +kernel
theorem d_FW_narrowedSize_33 : decode b_FW_narrowedSize 33 = .ok (.lsub, 1) := by decide +kernel
theorem d_FW_narrowedSize_34 : decode b_FW_narrowedSize 34 = .ok (.lstore 4, 2) := by decide +kernel
theorem d_FW_narrowedSize_36 : decode b_FW_narrowedSize 36 = .ok (.lload 4, 2) := by decide +kernel
theorem d_FW_narrowedSize_38 : decode b_FW_narrowedSize 38 = .ok (.iload_n 2, 1) := by decide +kernel
theorem d_FW_narrowedSize_39 : decode b_FW_narrowedSize 39 = .ok (.invokestatic 157, 3) := by decide +kernel
theorem d_FW_narrowedSize_42 : decode b_FW_narrowedSize 42 = .ok (.ldc2_w 118, 3) := by decide +kernel
theorem d_FW_narrowedSize_45 : decode b_FW_narrowedSize 45 = .ok (.invokestatic 161, 3) := by decide +kernel
theorem d_FW_narrowedSize_48 : decode b_FW_narrowedSize 48 = .ok (.lreturn, 1) := by decide +kernel
theorem d_FW_narrowedSize_49 : decode b_FW_narrowedSize 49 = .ok (.lload_n 0, 1) := by decide +kernel
theorem d_FW_narrowedSize_50 : decode b_FW_narrowedSize 50 = .ok (.iconst 0, 1) := by decide +kernel
theorem d_FW_narrowedSize_51 : decode b_FW_narrowedSize 51 = .ok (.invokestatic 64, 3) := by decide +kernel
theorem d_FW_narrowedSize_54 : decode b_FW_narrowedSize 54 = .ok (.iload_n 2, 1) := by decide +kernel
theorem d_FW_narrowedSize_55 : decode b_FW_narrowedSize 55 = .ok (.iconst 1, 1) := by decide +kernel
theorem d_FW_narrowedSize_56 : decode b_FW_narrowedSize 56 = .ok (.iadd, 1) := by decide +kernel
theorem d_FW_narrowedSize_57 : decode b_FW_narrowedSize 57 = .ok (.iload_n 3, 1) := by decide +kernel
theorem d_FW_narrowedSize_58 : decode b_FW_narrowedSize 58 = .ok (.isub, 1) := by decide +kernel
theorem d_FW_narrowedSize_59 : decode b_FW_narrowedSize 59 = .ok (.bipush 60, 2) := by decide +kernel
theorem d_FW_narrowedSize_61 : decode b_FW_narrowedSize 61 = .ok (.invokestatic 165, 3) := by decide +kernel
theorem d_FW_narrowedSize_64 : decode b_FW_narrowedSize 64 = .ok (.invokestatic 157, 3) := by decide +kernel
theorem d_FW_narrowedSize_67 : decode b_FW_narrowedSize 67 = .ok (.lreturn, 1) := by decide +kernel
theorem d_FW_widenedSize_0 : decode b_FW_widenedSize 0 = .ok (.lload_n 0, 1) := by decide +kernel
theorem d_FW_widenedSize_1 : decode b_FW_widenedSize 1 = .ok (.ldc2_w 118, 3) := by decide +kernel
theorem d_FW_widenedSize_4 : decode b_FW_widenedSize 4 = .ok (.lcmp, 1) := by decide +kernel
theorem d_FW_widenedSize_5 : decode b_FW_widenedSize 5 = .ok (.ifCond .ne 7, 3) := by decide +kernel
theorem d_FW_widenedSize_8 : decode b_FW_widenedSize 8 = .ok (.ldc2_w 110, 3) := by decide +kernel
theorem d_FW_widenedSize_11 : decode b_FW_widenedSize 11 = .ok (.lreturn, 1) := by decide +kernel
theorem d_FW_widenedSize_12 : decode b_FW_widenedSize 12 = .ok (.bipush 29, 2) := by decide +kernel
theorem d_FW_widenedSize_14 : decode b_FW_widenedSize 14 = .ok (.istore_n 2, 1) := by decide +kernel
theorem d_FW_widenedSize_15 : decode b_FW_widenedSize 15 = .ok (.lload_n 0, 1) := by decide +kernel
theorem d_FW_widenedSize_16 : decode b_FW_widenedSize 16 = .ok (.iconst 1, 1) := by decide +kernel
theorem d_FW_widenedSize_17 : decode b_FW_widenedSize 17 = .ok (.invokestatic 143, 3) := by decide +kernel
theorem d_FW_widenedSize_20 : decode b_FW_widenedSize 20 = .ok (.ifCond .le 11, 3) := by decide +kernel
theorem d_FW_widenedSize_23 : decode b_FW_widenedSize 23 = .ok (.lload_n 0, 1) := by decide +kernel
theorem d_FW_widenedSize_24 : decode b_FW_widenedSize 24 = .ok (.iload_n 2, 1) := by decide +kernel
theorem d_FW_widenedSize_25 : decode b_FW_widenedSize 25 = .ok (.lshl, 1) := by decide +kernel
theorem d_FW_widenedSize_26 : decode b_FW_widenedSize 26 = .ok (.ldc2_w 155, 3) := by decide +kernel
theorem d_FW_widenedSize_29 : decode b_FW_widenedSize 29 = .ok (.ladd, 1) := by decide +kernel
theorem d_FW_widenedSize_30 : decode b_FW_widenedSize 30 = .ok (.lreturn, 1) := by decide +kernel
theorem d_FW_widenedSize_31 : decode b_FW_widenedSize 31 = .ok (.lload_n 0, 1) := by decide +kernel
theorem d_FW_widenedSize_32 : decode b_FW_widenedSize 32 = .ok (.lconst 0, 1) := by decide +kernel
theorem d_FW_widenedSize_33 : decode b_FW_widenedSize 33 = .ok (.lcmp, 1) := by decide +kernel
theorem d_FW_widenedSize_34 : decode b_FW_widenedSize 34 = .ok (.ifCond .ne 5, 3) := by decide +kernel
theorem d_FW_widenedSize_37 : decode b_FW_widenedSize 37 = .ok (.lconst 0, 1) := by decide +kernel
theorem d_FW_widenedSize_38 : decode b_FW_widenedSize 38 = .ok (.lreturn, 1) := by decide +kernel
theorem d_FW_widenedSize_39 : decode b_FW_widenedSize 39 = .ok (.bipush 22, 2) := by decide +kernel
theorem d_FW_widenedSize_41 : decode b_FW_widenedSize 41 = .ok (.istore_n 3, 1) := by decide +kernel
theorem d_FW_widenedSize_42 : decode b_FW_widenedSize 42 = .ok (.iload_n 3, 1) := by decide +kernel
theorem d_FW_widenedSize_43 : decode b_FW_widenedSize 43 = .ok (.ifCond .le 17, 3) := by decide +kernel
theorem d_FW_widenedSize_46 : decode b_FW_widenedSize 46 = .ok (.lload_n 0, 1) := by decide +kernel
theorem d_FW_widenedSize_47 : decode b_FW_widenedSize 47 = .ok (.iload_n 3, 1) := by decide +kernel
theorem d_FW_widenedSize_48 : decode b_FW_widenedSize 48 = .ok (.lushr, 1) := by decide +kernel
theorem d_FW_widenedSize_49 : decode b_FW_widenedSize 49 = .ok (.lconst 0, 1) := by decide +kernel
theorem d_FW_widenedSize_50 : decode b_FW_widenedSize 50 = .ok (.lcmp, 1) := by decide +kernel
theorem d_FW_widenedSize_51 : decode b_FW_widenedSize 51 = .ok (.ifCond .ne 9, 3) := by decide +kernel
theorem d_FW_widenedSize_54 : decode b_FW_widenedSize 54 = .ok (.iinc 3 (-1), 3) := by decide +kernel
theorem d_FW_widenedSize_57 : decode b_FW_widenedSize 57 = .ok (.goto (-15), 3) := by decide +kernel
theorem d_FW_widenedSize_60 : decode b_FW_widenedSize 60 = .ok (.iload_n 3, 1) := by decide +kernel
theorem d_FW_widenedSize_61 : decode b_FW_widenedSize 61 = .ok (.sipush 149, 3) := by decide +kernel
theorem d_FW_widenedSize_64 : decode b_FW_widenedSize 64 = .ok (.isub, 1) := by decide +kernel
theorem d_FW_widenedSize_65 : decode b_FW_widenedSize 65 = .ok (.sipush 1023, 3) := by decide +kernel
theorem d_FW_widenedSize_68 : decode b_FW_widenedSize 68 = .ok (.iadd, 1) := by decide +kernel
theorem d_FW_widenedSize_69 : decode b_FW_widenedSize 69 = .ok (.i2l, 1) := by decide +kernel
theorem d_FW_widenedSize_70 : decode b_FW_widenedSize 70 = .ok (.lstore 4, 2) := by decide +kernel
theorem d_FW_widenedSize_72 : decode b_FW_widenedSize 72 = .ok (.lload_n 0, 1) := by decide +kernel
theorem d_FW_widenedSize_73 : decode b_FW_widenedSize 73 = .ok (.bipush 52, 2) := by decide +kernel
theorem d_FW_widenedSize_75 : decode b_FW_widenedSize 75 = .ok (.iload_n 3, 1) := by decide +kernel
theorem d_FW_widenedSize_76 : decode b_FW_widenedSize 76 = .ok (.isub, 1) := by decide +kernel
theorem d_FW_widenedSize_77 : decode b_FW_widenedSize 77 = .ok (.lshl, 1) := by decide +kernel
theorem d_FW_widenedSize_78 : decode b_FW_widenedSize 78 = .ok (.iconst 0, 1) := by decide +kernel
theorem d_FW_widenedSize_79 : decode b_FW_widenedSize 79 = .ok (.invokestatic 146, 3) := by decide +kernel
theorem d_FW_widenedSize_82 : decode b_FW_widenedSize 82 = .ok (.lstore 6, 2) := by decide +kernel
theorem d_FW_widenedSize_84 : decode b_FW_widenedSize 84 = .ok (.lload 4, 2) := by decide +kernel
theorem d_FW_widenedSize_86 : decode b_FW_widenedSize 86 = .ok (.bipush 52, 2) := by decide +kernel
theorem d_FW_widenedSize_88 : decode b_FW_widenedSize 88 = .ok (.lshl, 1) := by decide +kernel
theorem d_FW_widenedSize_89 : decode b_FW_widenedSize 89 = .ok (.lload 6, 2) := by decide +kernel
theorem d_FW_widenedSize_91 : decode b_FW_widenedSize 91 = .ok (.lor, 1) := by decide +kernel
theorem d_FW_widenedSize_92 : decode b_FW_widenedSize 92 = .ok (.lreturn, 1) := by decide +kernel
abbrev Qc_FW_halvedToEven (D : va_G) (v : Nat) (t : Nat) (A : Nat → Prop) : Array Value → State → Outcome → State → Prop := vp_Sl (fun r : Int64 => r = lN (hTE v t))
set_option maxHeartbeats 4000000 in
set_option maxRecDepth 100000 in
theorem c_FW_halvedToEven (l : Launch) (D : va_G) (Z : Nat → Nat) (hz9 : Nat) (v : Nat) (t : Nat) (hv : v < 9223372036854775808) (ht : 1 ≤ t ∧ t ≤ 62) : Met l y_FW_halvedToEven (.code y_FW_halvedToEven b_FW_halvedToEven 10 (some .long) :: gT) ({ frames := 0, cells := 0, slots := 0, locals := 0 } : Room) (va_Pc [.long (lN (v)), .int (iZ (((t : Nat) : Int)))] (cpre D Z [] [] hz9)) (Qc_FW_halvedToEven D v t (va_A [] hz9)) 0 0 (fun _ => False) := by
  refine met_go (Qf := Qc_FW_halvedToEven D v t) (ff := fun _ _ => False) (by decide) ?_
  intro p e s m below meth c A C0 hin hsz9 hA hE hK hP hD
  obtain ⟨hx, hb, hml, hown, hts, hr, hlocks⟩ := id C0
  have hS : va_S A s.heap s.heap [] := va_S.rf
  have hl := lv_entry [.long (lN (v)), .int (iZ (((t : Nat) : Int)))] (n := 10) (Nat.le_of_ble_eq_true rfl)
  rw [lg_entry_eq]
  generalize (lg_sl [.long (lN (v)), .int (iZ (((t : Nat) : Int)))] ++ List.replicate (10 - (lg_sl [.long (lN (v)), .int (iZ (((t : Nat) : Int)))]).length) Slot.unset).toArray = ls at hl ⊢
  have hl : lv_has ls 10 [(0, .long (lN (v))), (2, .int (iZ (((t : Nat) : Int))))] := hl
  have hp := Nat.pow_pos (n := t) (show 0 < 2 by decide)
  have hp2 := p62 ht.2
  have hp3 := p62 (t := t - 1) (by omega)
  have hr7 := Nat.mod_lt v hp
  refine lv_lload_n hx hb d_FW_halvedToEven_0 rfl (lv_at hl 0 rfl) ?_
  refine lv_iload_n hx hb d_FW_halvedToEven_1 rfl (lv_at hl 1 rfl) ?_
  refine nv_lushr (k := t) hx hb d_FW_halvedToEven_2 (rfl) (by omega) (by omega) ?_
  refine lv_lstore_n (lv' := [(3, .long (lN (v / 2 ^ t))), (0, .long (lN (v))), (2, .int (iZ (((t : Nat) : Int))))]) hx hb d_FW_halvedToEven_3 rfl hl (by decide) rfl (fun ls hl => ?_)
  refine lv_lload_n hx hb d_FW_halvedToEven_4 rfl (lv_at hl 1 rfl) ?_
  refine lv_lconst (v := lN 1) hx hb d_FW_halvedToEven_5 rfl ?_
  refine lv_iload_n hx hb d_FW_halvedToEven_6 rfl (lv_at hl 2 rfl) ?_
  refine nv_lshl (k := t) hx hb d_FW_halvedToEven_7 (rfl) (by omega) ?_
  refine lv_lconst (v := lN 1) hx hb d_FW_halvedToEven_8 rfl ?_
  refine nv_lsub hx hb d_FW_halvedToEven_9 (by omega) ?_
  refine nv_land hx hb d_FW_halvedToEven_10 (by omega) (by omega) ?_
  refine nv_top (y := lN (v % 2 ^ t)) (by rw [Nat.one_mul, Nat.and_two_pow_sub_one_eq_mod]) ?_
  refine lv_lstore (lv' := [(5, .long (lN (v % 2 ^ t))), (3, .long (lN (v / 2 ^ t))), (0, .long (lN (v))), (2, .int (iZ (((t : Nat) : Int))))]) hx hb d_FW_halvedToEven_11 hl (by decide) rfl (fun ls hl => ?_)
  refine lv_lconst (v := lN 1) hx hb d_FW_halvedToEven_13 rfl ?_
  refine lv_iload_n hx hb d_FW_halvedToEven_14 rfl (lv_at hl 3 rfl) ?_
  refine lv_iconst (v := iZ (1)) hx hb d_FW_halvedToEven_15 rfl ?_
  refine zv_isub hx hb d_FW_halvedToEven_16 ?_
  refine zv_top (y := iZ (((t - 1 : Nat) : Int))) (congrArg iZ (by omega)) ?_
  refine nv_lshl (k := (t - 1)) hx hb d_FW_halvedToEven_17 (rfl) (by omega) ?_
  refine nv_top (y := lN (2 ^ (t - 1))) (congrArg lN (Nat.one_mul _)) ?_
  refine lv_lstore (lv' := [(7, .long (lN (2 ^ (t - 1)))), (5, .long (lN (v % 2 ^ t))), (3, .long (lN (v / 2 ^ t))), (0, .long (lN (v))), (2, .int (iZ (((t : Nat) : Int))))]) hx hb d_FW_halvedToEven_18 hl (by decide) rfl (fun ls hl => ?_)
  refine lv_lload hx hb d_FW_halvedToEven_20 (lv_at hl 1 rfl) ?_
  refine lv_lload hx hb d_FW_halvedToEven_22 (lv_at hl 0 rfl) ?_
  refine nv_lcmp_gt (tgt := 44) hx hb d_FW_halvedToEven_24 d_FW_halvedToEven_25 (by decide) (by omega) (hp3) (fun c24 => ?_) (fun c24 => ?_)
  · refine lv_iconst (v := iZ (1)) hx hb d_FW_halvedToEven_44 rfl ?_
    refine lv_goto (tgt := 49) hx hb d_FW_halvedToEven_45 (by decide) ?_
    refine lv_istore (lv' := [(9, .int (iZ (1))), (7, .long (lN (2 ^ (t - 1)))), (5, .long (lN (v % 2 ^ t))), (3, .long (lN (v / 2 ^ t))), (0, .long (lN (v))), (2, .int (iZ (((t : Nat) : Int))))]) hx hb d_FW_halvedToEven_49 hl (by decide) rfl (fun ls hl => ?_)
    refine lv_iload hx hb d_FW_halvedToEven_51 (lv_at hl 0 rfl) ?_
    refine zv_if_eq (tgt := 62) hx hb d_FW_halvedToEven_53 (by decide) (by omega) (fun c53 => absurd c53 (by decide)) (fun c53 => ?_)
    refine lv_lload_n hx hb d_FW_halvedToEven_56 rfl (lv_at hl 3 rfl) ?_
    refine lv_lconst (v := lN 1) hx hb d_FW_halvedToEven_57 rfl ?_
    refine nv_ladd hx hb d_FW_halvedToEven_58 ?_
    refine lv_goto (tgt := 63) hx hb d_FW_halvedToEven_59 (by decide) ?_
    exact er_l hx hb hr hlocks d_FW_halvedToEven_63 (show lN ((v / 2 ^ t) + 1) = lN (hTE v t) from congrArg lN (by unfold hTE; first | rw [if_pos (Or.inl c24)] | rw [if_pos (Or.inr ⟨by assumption, by assumption⟩)] | rw [if_neg (by omega)]))
  · refine lv_lload hx hb d_FW_halvedToEven_28 (lv_at hl 1 rfl) ?_
    refine lv_lload hx hb d_FW_halvedToEven_30 (lv_at hl 0 rfl) ?_
    refine nv_lcmp_ne (tgt := 48) hx hb d_FW_halvedToEven_32 d_FW_halvedToEven_33 (by decide) (by omega) (by omega) (fun c32 => ?_) (fun c32 => ?_)
    · refine lv_iconst (v := iZ (0)) hx hb d_FW_halvedToEven_48 rfl ?_
      refine lv_istore (lv' := [(9, .int (iZ (0))), (7, .long (lN (2 ^ (t - 1)))), (5, .long (lN (v % 2 ^ t))), (3, .long (lN (v / 2 ^ t))), (0, .long (lN (v))), (2, .int (iZ (((t : Nat) : Int))))]) hx hb d_FW_halvedToEven_49 hl (by decide) rfl (fun ls hl => ?_)
      refine lv_iload hx hb d_FW_halvedToEven_51 (lv_at hl 0 rfl) ?_
      refine zv_if_eq (tgt := 62) hx hb d_FW_halvedToEven_53 (by decide) (by omega) (fun c53 => ?_) (fun c53 => absurd c53 (by decide))
      refine lv_lload_n hx hb d_FW_halvedToEven_62 rfl (lv_at hl 3 rfl) ?_
      exact er_l hx hb hr hlocks d_FW_halvedToEven_63 (show lN (v / 2 ^ t) = lN (hTE v t) from congrArg lN (by unfold hTE; first | rw [if_pos (Or.inl c24)] | rw [if_pos (Or.inr ⟨by assumption, by assumption⟩)] | rw [if_neg (by omega)]))
    · refine lv_lload_n hx hb d_FW_halvedToEven_36 rfl (lv_at hl 2 rfl) ?_
      refine lv_lconst (v := lN 1) hx hb d_FW_halvedToEven_37 rfl ?_
      refine nv_land hx hb d_FW_halvedToEven_38 (Nat.lt_of_le_of_lt (Nat.div_le_self _ _) (by omega)) (by decide) ?_
      refine nv_top (y := lN (v / 2 ^ t % 2)) (congrArg lN (Nat.and_one_is_mod _)) ?_
      refine lv_lconst (v := lN 1) hx hb d_FW_halvedToEven_39 rfl ?_
      refine nv_lcmp_ne (tgt := 48) hx hb d_FW_halvedToEven_40 d_FW_halvedToEven_41 (by decide) (by omega) (by decide) (fun c40 => ?_) (fun c40 => ?_)
      · refine lv_iconst (v := iZ (0)) hx hb d_FW_halvedToEven_48 rfl ?_
        refine lv_istore (lv' := [(9, .int (iZ (0))), (7, .long (lN (2 ^ (t - 1)))), (5, .long (lN (v % 2 ^ t))), (3, .long (lN (v / 2 ^ t))), (0, .long (lN (v))), (2, .int (iZ (((t : Nat) : Int))))]) hx hb d_FW_halvedToEven_49 hl (by decide) rfl (fun ls hl => ?_)
        refine lv_iload hx hb d_FW_halvedToEven_51 (lv_at hl 0 rfl) ?_
        refine zv_if_eq (tgt := 62) hx hb d_FW_halvedToEven_53 (by decide) (by omega) (fun c53 => ?_) (fun c53 => absurd c53 (by decide))
        refine lv_lload_n hx hb d_FW_halvedToEven_62 rfl (lv_at hl 3 rfl) ?_
        exact er_l hx hb hr hlocks d_FW_halvedToEven_63 (show lN (v / 2 ^ t) = lN (hTE v t) from congrArg lN (by unfold hTE; first | rw [if_pos (Or.inl c24)] | rw [if_pos (Or.inr ⟨by assumption, by assumption⟩)] | rw [if_neg (by omega)]))
      · refine lv_iconst (v := iZ (1)) hx hb d_FW_halvedToEven_44 rfl ?_
        refine lv_goto (tgt := 49) hx hb d_FW_halvedToEven_45 (by decide) ?_
        refine lv_istore (lv' := [(9, .int (iZ (1))), (7, .long (lN (2 ^ (t - 1)))), (5, .long (lN (v % 2 ^ t))), (3, .long (lN (v / 2 ^ t))), (0, .long (lN (v))), (2, .int (iZ (((t : Nat) : Int))))]) hx hb d_FW_halvedToEven_49 hl (by decide) rfl (fun ls hl => ?_)
        refine lv_iload hx hb d_FW_halvedToEven_51 (lv_at hl 0 rfl) ?_
        refine zv_if_eq (tgt := 62) hx hb d_FW_halvedToEven_53 (by decide) (by omega) (fun c53 => absurd c53 (by decide)) (fun c53 => ?_)
        refine lv_lload_n hx hb d_FW_halvedToEven_56 rfl (lv_at hl 3 rfl) ?_
        refine lv_lconst (v := lN 1) hx hb d_FW_halvedToEven_57 rfl ?_
        refine nv_ladd hx hb d_FW_halvedToEven_58 ?_
        refine lv_goto (tgt := 63) hx hb d_FW_halvedToEven_59 (by decide) ?_
        exact er_l hx hb hr hlocks d_FW_halvedToEven_63 (show lN ((v / 2 ^ t) + 1) = lN (hTE v t) from congrArg lN (by unfold hTE; first | rw [if_pos (Or.inl c24)] | rw [if_pos (Or.inr ⟨by assumption, by assumption⟩)] | rw [if_neg (by omega)]))
abbrev Qc_FW_narrowedSize (D : va_G) (x : Nat) (A : Nat → Prop) : Array Value → State → Outcome → State → Prop := vp_Sl (fun r : Int64 => r = lN (nSz x))
set_option maxHeartbeats 4000000 in
set_option maxRecDepth 100000 in
theorem c_FW_narrowedSize (l : Launch) (D : va_G) (Z : Nat → Nat) (hz9 : Nat) (x : Nat) (hx9 : x ≤ 9218868437227405312) : Met l y_FW_narrowedSize (.code y_FW_narrowedSize b_FW_narrowedSize 6 (some .long) :: gT) ({ frames := 4, cells := 0, slots := 0, locals := 88 } : Room) (va_Pc [.long (lN (x))] (cpre D Z [] [] hz9)) (Qc_FW_narrowedSize D x (va_A [] hz9)) 0 0 (fun _ => False) := by
  refine met_go (Qf := Qc_FW_narrowedSize D x) (ff := fun _ _ => False) (by decide) ?_
  intro p e s m below meth c A C0 hin hsz9 hA hE hK hP hD
  obtain ⟨hx, hb, hml, hown, hts, hr, hlocks⟩ := id C0
  have hS : va_S A s.heap s.heap [] := va_S.rf
  have hl := lv_entry [.long (lN (x))] (n := 6) (Nat.le_of_ble_eq_true rfl)
  rw [lg_entry_eq]
  generalize (lg_sl [.long (lN (x))] ++ List.replicate (6 - (lg_sl [.long (lN (x))]).length) Slot.unset).toArray = ls at hl ⊢
  have hl : lv_has ls 6 [(0, .long (lN (x)))] := hl
  refine lv_lload_n hx hb d_FW_narrowedSize_0 rfl (lv_at hl 0 rfl) ?_
  refine lv_ldc2 (v := (9218868437227405312)) hx hb hown (hts _ kw_1_) d_FW_narrowedSize_1 ?_
  refine nv_top (y := lN 9218868437227405312) (by decide) ?_
  refine nv_lcmp_ne (tgt := 12) hx hb d_FW_narrowedSize_4 d_FW_narrowedSize_5 (by decide) (by omega) (by decide) (fun c4 => ?_) (fun c4 => ?_)
  · refine lv_bipush (v := iZ (29)) hx hb d_FW_narrowedSize_12 (by decide) ?_
    refine lv_istore_n (lv' := [(2, .int (iZ (29))), (0, .long (lN (x)))]) hx hb d_FW_narrowedSize_14 rfl hl (by decide) rfl (fun ls hl => ?_)
    refine lv_lload_n hx hb d_FW_narrowedSize_15 rfl (lv_at hl 1 rfl) ?_
    refine lv_iconst (v := iZ (0)) hx hb d_FW_narrowedSize_16 rfl ?_
    refine zv_top (y := bZ (false = true)) (by decide) ?_
    refine kg_i (kr_S (As := [.long (lN (x)), .int (bZ (false = true))]) (rest := []) C0 (c_FW_exponent l D Z _ x false (by omega)) q_y_FW_exponent kw_13_ kw_12_ kw_3_ hd_y_FW_exponent rfl rfl ⟨Nat.le_of_ble_eq_true rfl, Nat.le_of_ble_eq_true rfl⟩ (hP.sub (ws' := []) [] rfl) (hD.sub (ws' := []) [] (by decide) rfl) (hK.sub (tys' := []) [] rfl) hE hS (va_free (wc := []) hD hS hA [] rfl) rfl hl.1 rfl (Nat.le_of_ble_eq_true rfl) d_FW_narrowedSize_17 ⟨Nat.le_of_ble_eq_true rfl, Nat.le_of_ble_eq_true rfl⟩) (fun r hr1 => ?_)
    obtain rfl : r = iZ (((fE x false : Nat) : Int)) := hr1
    refine lv_sipush (v := iZ (896)) hx hb d_FW_narrowedSize_20 (by decide) ?_
    refine zv_isub hx hb d_FW_narrowedSize_23 ?_
    refine lv_istore_n (lv' := [(3, .int (iZ (((fE x false : Nat) : Int) - 896))), (2, .int (iZ (29))), (0, .long (lN (x)))]) hx hb d_FW_narrowedSize_24 rfl hl (by decide) rfl (fun ls hl => ?_)
    refine lv_iload_n hx hb d_FW_narrowedSize_25 rfl (lv_at hl 0 rfl) ?_
    refine zv_if_le (tgt := 49) hx hb d_FW_narrowedSize_26 (by decide) (by have := fE_lt x false; omega) (fun c26 => ?_) (fun c26 => ?_)
    · have q26 : fE x false ≤ 896 := by omega
      refine lv_lload_n hx hb d_FW_narrowedSize_49 rfl (lv_at hl 2 rfl) ?_
      refine lv_iconst (v := iZ (0)) hx hb d_FW_narrowedSize_50 rfl ?_
      refine zv_top (y := bZ (false = true)) (by decide) ?_
      refine kg_l (kr_S (As := [.long (lN (x)), .int (bZ (false = true))]) (rest := []) C0 (c_FW_significand l D Z _ x false (by omega)) q_y_FW_significand kw_119_ kw_118_ kw_3_ hd_y_FW_significand rfl rfl ⟨Nat.le_of_ble_eq_true rfl, Nat.le_of_ble_eq_true rfl⟩ (hP.sub (ws' := []) [] rfl) (hD.sub (ws' := []) [] (by decide) rfl) (hK.sub (tys' := []) [] rfl) hE hS (va_free (wc := []) hD hS hA [] rfl) rfl hl.1 rfl (Nat.le_of_ble_eq_true rfl) d_FW_narrowedSize_51 ⟨Nat.le_of_ble_eq_true rfl, Nat.le_of_ble_eq_true rfl⟩) (fun r hr1 => ?_)
      obtain rfl : r = lN (fM x false) := hr1
      refine lv_iload_n hx hb d_FW_narrowedSize_54 rfl (lv_at hl 1 rfl) ?_
      refine lv_iconst (v := iZ (1)) hx hb d_FW_narrowedSize_55 rfl ?_
      refine zv_iadd hx hb d_FW_narrowedSize_56 ?_
      refine lv_iload_n hx hb d_FW_narrowedSize_57 rfl (lv_at hl 0 rfl) ?_
      refine zv_isub hx hb d_FW_narrowedSize_58 ?_
      refine lv_bipush (v := iZ (60)) hx hb d_FW_narrowedSize_59 (by decide) ?_
      refine zv_mmin hx hb (hml.trans hl.1.symm) hown (hts _ kw_120_) (hts _ kw_38_) (hts _ kw_0_) (hts _ q_Lib_Math_min_name) (Nat.le_of_ble_eq_true rfl) (Nat.le_of_ble_eq_true rfl) (Nat.le_of_ble_eq_true rfl) (Nat.le_of_ble_eq_true rfl) (by have := fE_lt x false; omega) (by omega) d_FW_narrowedSize_61 ?_
      refine zv_top (y := iZ (((min (926 - fE x false) 60 : Nat) : Int))) (congrArg iZ (by omega)) ?_
      refine kg_l (kr_S (As := [.long (lN (fM x false)), .int (iZ (((min (926 - fE x false) 60 : Nat) : Int)))]) (rest := []) C0 (c_FW_halvedToEven l D Z _ (fM x false) (min (926 - fE x false) 60) (by have := fM_lt x false; omega) (by omega)) q_y_FW_halvedToEven kw_122_ kw_121_ kw_3_ hd_y_FW_halvedToEven rfl rfl ⟨Nat.le_of_ble_eq_true rfl, Nat.le_of_ble_eq_true rfl⟩ (hP.sub (ws' := []) [] rfl) (hD.sub (ws' := []) [] (by decide) rfl) (hK.sub (tys' := []) [] rfl) hE hS (va_free (wc := []) hD hS hA [] rfl) rfl hl.1 rfl (Nat.le_of_ble_eq_true rfl) d_FW_narrowedSize_64 ⟨Nat.le_of_ble_eq_true rfl, Nat.le_of_ble_eq_true rfl⟩) (fun r hr1 => ?_)
      obtain rfl : r = lN (hTE (fM x false) (min (926 - fE x false) 60)) := hr1
      exact er_l hx hb hr hlocks d_FW_narrowedSize_67 (show lN (hTE (fM x false) (min (926 - fE x false) 60)) = lN (nSz x) from congrArg lN (by unfold nSz; rw [if_neg c4, if_neg (by omega)]))
    · have q26 : 896 < fE x false := by omega
      have hge : 4035225266123964416 ≤ x := fE_ge q26
      refine lv_lload_n hx hb d_FW_narrowedSize_29 rfl (lv_at hl 2 rfl) ?_
      refine lv_ldc2 (v := (4035225266123964416)) hx hb hown (hts _ kw_123_) d_FW_narrowedSize_30 ?_
      refine nv_top (y := lN 4035225266123964416) (by decide) ?_
      refine nv_lsub hx hb d_FW_narrowedSize_33 (hge) ?_
      refine lv_lstore (lv' := [(4, .long (lN (x - 4035225266123964416))), (3, .int (iZ (((fE x false : Nat) : Int) - 896))), (2, .int (iZ (29))), (0, .long (lN (x)))]) hx hb d_FW_narrowedSize_34 hl (by decide) rfl (fun ls hl => ?_)
      refine lv_lload hx hb d_FW_narrowedSize_36 (lv_at hl 0 rfl) ?_
      refine lv_iload_n hx hb d_FW_narrowedSize_38 rfl (lv_at hl 2 rfl) ?_
      refine zv_top (y := iZ (((29 : Nat) : Int))) (rfl) ?_
      refine kg_l (kr_S (As := [.long (lN (x - 4035225266123964416)), .int (iZ (((29 : Nat) : Int)))]) (rest := []) C0 (c_FW_halvedToEven l D Z _ (x - 4035225266123964416) 29 (by omega) (by omega)) q_y_FW_halvedToEven kw_122_ kw_121_ kw_3_ hd_y_FW_halvedToEven rfl rfl ⟨Nat.le_of_ble_eq_true rfl, Nat.le_of_ble_eq_true rfl⟩ (hP.sub (ws' := []) [] rfl) (hD.sub (ws' := []) [] (by decide) rfl) (hK.sub (tys' := []) [] rfl) hE hS (va_free (wc := []) hD hS hA [] rfl) rfl hl.1 rfl (Nat.le_of_ble_eq_true rfl) d_FW_narrowedSize_39 ⟨Nat.le_of_ble_eq_true rfl, Nat.le_of_ble_eq_true rfl⟩) (fun r hr1 => ?_)
      obtain rfl : r = lN (hTE (x - 4035225266123964416) 29) := hr1
      refine lv_ldc2 (v := (2139095040)) hx hb hown (hts _ kw_2_) d_FW_narrowedSize_42 ?_
      refine nv_top (y := lN 2139095040) (by decide) ?_
      refine nv_mminl hx hb (hml.trans hl.1.symm) hown (hts _ kw_124_) (hts _ kw_125_) (hts _ kw_0_) (hts _ q_Lib_MathLoose_min_long_x) (Nat.le_of_ble_eq_true rfl) (Nat.le_of_ble_eq_true rfl) (Nat.le_of_ble_eq_true rfl) (Nat.le_of_ble_eq_true rfl) (hTE_lt (by omega) (by decide)) (by decide) d_FW_narrowedSize_45 ?_
      exact er_l hx hb hr hlocks d_FW_narrowedSize_48 (show lN (min (hTE (x - 4035225266123964416) 29) 2139095040) = lN (nSz x) from congrArg lN (by unfold nSz; rw [if_neg c4, if_pos q26]))
  · refine lv_ldc2 (v := (2139095040)) hx hb hown (hts _ kw_2_) d_FW_narrowedSize_8 ?_
    refine nv_top (y := lN 2139095040) (by decide) ?_
    exact er_l hx hb hr hlocks d_FW_narrowedSize_11 (show lN (2139095040) = lN (nSz x) from congrArg lN (by unfold nSz; rw [if_pos c4]))
abbrev Qc_FW_widenedSize (D : va_G) (x : Nat) (A : Nat → Prop) : Array Value → State → Outcome → State → Prop := vp_Sl (fun r : Int64 => r = lN (wSz x))
set_option maxHeartbeats 4000000 in
set_option maxRecDepth 100000 in
theorem lp_FW_widenedSize_60 {p : Program} {l : Launch} {e : Env} {s : State} {m : MethodId} {args : Array Value} {below : List Frame} {meth : Method} {c : Code} {A : Nat → Prop} {D : va_G} {Z : Nat → Nat} (x : Nat) (hx9 : x ≤ 2139095040) (C0 : cxA p s m args meth c b_FW_widenedSize 8 R_FW (some .long)) (hA : ∀ q : Nat, s.heap.size ≤ q → A q) (hE : Ev Z A s s.heap) : ∀ (N : Nat) (k : Nat) (ls : Array Slot), 0 < N → (0 < x) → (k ≤ 22) → (Nat.log2 x = k) → (fE x true = 0) → (¬ x = 2139095040) → va_K D classes [] s → va_P D classes [] s.heap → va_D A [] → va_S A s.heap s.heap [] → lv_has ls 8 [(0, .long (lN (x))), (3, .int (iZ (((k : Nat) : Int))))] → W p l e ({ frames := 3, cells := 0, slots := 0, locals := 64 } : Room) s m args below meth c s.heap [] 0 0 (MQ below (Qc_FW_widenedSize D x A) args s 0 0 (fun _ => False)) (F0 m 60 ls []) := by
  obtain ⟨hx, hb, hml, hown, hts, hr, hlocks⟩ := id C0
  intro N
  induction N with
  | zero => intro k ls hN; exact absurd hN (Nat.not_lt_zero _)
  | succ N ih =>
    intro k ls hN hx0 hk hlg hE0 hxi hK hP hD hS hl
    refine lv_iload_n hx hb d_FW_widenedSize_60 rfl (lv_at hl 1 rfl) ?_
    refine lv_sipush (v := iZ (149)) hx hb d_FW_widenedSize_61 (by decide) ?_
    refine zv_isub hx hb d_FW_widenedSize_64 ?_
    refine lv_sipush (v := iZ (1023)) hx hb d_FW_widenedSize_65 (by decide) ?_
    refine zv_iadd hx hb d_FW_widenedSize_68 ?_
    refine zv_top (y := iZ (((k + 874 : Nat) : Int))) (congrArg iZ (by omega)) ?_
    refine nv_i2l (n := (k + 874)) hx hb d_FW_widenedSize_69 (rfl) (by omega) ?_
    refine lv_lstore (lv' := [(4, .long (lN (k + 874))), (0, .long (lN (x))), (3, .int (iZ (((k : Nat) : Int))))]) hx hb d_FW_widenedSize_70 hl (by decide) rfl (fun ls hl => ?_)
    refine lv_lload_n hx hb d_FW_widenedSize_72 rfl (lv_at hl 1 rfl) ?_
    refine lv_bipush (v := iZ (52)) hx hb d_FW_widenedSize_73 (by decide) ?_
    refine lv_iload_n hx hb d_FW_widenedSize_75 rfl (lv_at hl 2 rfl) ?_
    refine zv_isub hx hb d_FW_widenedSize_76 ?_
    refine zv_top (y := iZ (((52 - k : Nat) : Int))) (congrArg iZ (by omega)) ?_
    refine nv_lshl (k := (52 - k)) hx hb d_FW_widenedSize_77 (rfl) (by omega) ?_
    refine lv_iconst (v := iZ (0)) hx hb d_FW_widenedSize_78 rfl ?_
    refine zv_top (y := bZ (false = true)) (by decide) ?_
    refine kg_l (kr_S (As := [.long (lN (x * 2 ^ (52 - k))), .int (bZ (false = true))]) (rest := []) C0 (c_FW_fraction l D Z _ (x * 2 ^ (52 - k)) false (wid_lt hlg hk)) q_y_FW_fraction kw_15_ kw_14_ kw_3_ hd_y_FW_fraction rfl rfl ⟨Nat.le_of_ble_eq_true rfl, Nat.le_of_ble_eq_true rfl⟩ (hP.sub (ws' := []) [] rfl) (hD.sub (ws' := []) [] (by decide) rfl) (hK.sub (tys' := []) [] rfl) hE hS (va_free (wc := []) hD hS hA [] rfl) rfl hl.1 rfl (Nat.le_of_ble_eq_true rfl) d_FW_widenedSize_79 ⟨Nat.le_of_ble_eq_true rfl, Nat.le_of_ble_eq_true rfl⟩) (fun r hr1 => ?_)
    obtain rfl : r = lN (fF (x * 2 ^ (52 - k)) false) := hr1
    refine lv_lstore (lv' := [(6, .long (lN (fF (x * 2 ^ (52 - k)) false))), (4, .long (lN (k + 874))), (0, .long (lN (x))), (3, .int (iZ (((k : Nat) : Int))))]) hx hb d_FW_widenedSize_82 hl (by decide) rfl (fun ls hl => ?_)
    refine lv_lload hx hb d_FW_widenedSize_84 (lv_at hl 1 rfl) ?_
    refine lv_bipush (v := iZ (52)) hx hb d_FW_widenedSize_86 (by decide) ?_
    refine nv_lshl (k := 52) hx hb d_FW_widenedSize_88 (by omega) (by decide) ?_
    refine lv_lload hx hb d_FW_widenedSize_89 (lv_at hl 0 rfl) ?_
    refine nv_lor hx hb d_FW_widenedSize_91 (by omega) (by have := fF_lt (x * 2 ^ (52 - k)) false; have h3 : 2 ^ fP false = 4503599627370496 := rfl; omega) ?_
    refine nv_top (y := lN (wSz x)) (congrArg lN (wid_or hlg hE0 hxi hx0)) ?_
    exact er_l hx hb hr hlocks d_FW_widenedSize_92 (show lN (wSz x) = lN (wSz x) from rfl)
set_option maxHeartbeats 4000000 in
set_option maxRecDepth 100000 in
theorem lp_FW_widenedSize_42 {p : Program} {l : Launch} {e : Env} {s : State} {m : MethodId} {args : Array Value} {below : List Frame} {meth : Method} {c : Code} {A : Nat → Prop} {D : va_G} {Z : Nat → Nat} (x : Nat) (hx9 : x ≤ 2139095040) (C0 : cxA p s m args meth c b_FW_widenedSize 8 R_FW (some .long)) (hA : ∀ q : Nat, s.heap.size ≤ q → A q) (hE : Ev Z A s s.heap) : ∀ (N : Nat) (k : Nat) (ls : Array Slot), k < N → (0 < x) → (k ≤ 22) → (x < 2 ^ (k + 1)) → (fE x true = 0) → (¬ x = 2139095040) → va_K D classes [] s → va_P D classes [] s.heap → va_D A [] → va_S A s.heap s.heap [] → lv_has ls 8 [(0, .long (lN (x))), (3, .int (iZ (((k : Nat) : Int))))] → W p l e ({ frames := 3, cells := 0, slots := 0, locals := 64 } : Room) s m args below meth c s.heap [] 0 0 (MQ below (Qc_FW_widenedSize D x A) args s 0 0 (fun _ => False)) (F0 m 42 ls []) := by
  obtain ⟨hx, hb, hml, hown, hts, hr, hlocks⟩ := id C0
  intro N
  induction N with
  | zero => intro k ls hN; exact absurd hN (Nat.not_lt_zero _)
  | succ N ih =>
    intro k ls hN hx0 hk hlt hE0 hxi hK hP hD hS hl
    refine lv_iload_n hx hb d_FW_widenedSize_42 rfl (lv_at hl 1 rfl) ?_
    refine zv_if_le (tgt := 60) hx hb d_FW_widenedSize_43 (by decide) (by omega) (fun c43 => ?_) (fun c43 => ?_)
    · have k0 : k = 0 := by omega
      exact lp_FW_widenedSize_60 x hx9 C0 hA hE (0 + 1) k _ (Nat.lt_succ_self _) (hx0) (by omega) (log2_at (by rw [k0]; exact hx0) hlt) (hE0) (hxi) (hK.sub [] rfl) (hP.sub [] rfl) (hD.sub [] (by decide) rfl) hS (lv_sub hl [0, 1] rfl)
    · refine lv_lload_n hx hb d_FW_widenedSize_46 rfl (lv_at hl 0 rfl) ?_
      refine lv_iload_n hx hb d_FW_widenedSize_47 rfl (lv_at hl 1 rfl) ?_
      refine nv_lushr (k := k) hx hb d_FW_widenedSize_48 (rfl) (by omega) (by omega) ?_
      refine lv_lconst (v := lN 0) hx hb d_FW_widenedSize_49 rfl ?_
      refine nv_lcmp_ne (tgt := 60) hx hb d_FW_widenedSize_50 d_FW_widenedSize_51 (by decide) (Nat.lt_of_le_of_lt (Nat.div_le_self _ _) (by omega)) (by decide) (fun c50 => ?_) (fun c50 => ?_)
      · exact lp_FW_widenedSize_60 x hx9 C0 hA hE (0 + 1) k _ (Nat.lt_succ_self _) (hx0) (by omega) (log2_at (Nat.le_of_not_lt (fun q => c50 (Nat.div_eq_of_lt q))) hlt) (hE0) (hxi) (hK.sub [] rfl) (hP.sub [] rfl) (hD.sub [] (by decide) rfl) hS (lv_sub hl [0, 1] rfl)
      · refine lv_iinc (v := iZ (((k - 1 : Nat) : Int))) (lv' := [(3, .int (iZ (((k - 1 : Nat) : Int)))), (0, .long (lN (x)))]) hx hb d_FW_widenedSize_54 hl (k := 1) rfl ((iZ_add _ _).trans (congrArg iZ (by omega))) (by decide) rfl (fun ls hl => ?_)
        refine lv_goto (tgt := 42) hx hb d_FW_widenedSize_57 (by decide) ?_
        exact ih (k - 1) _ (by omega) (hx0) (by omega) (by rw [show k - 1 + 1 = k by omega]; exact lt_of_div0 (Nat.pow_pos (by decide)) c50) (hE0) (hxi) (hK.sub [] rfl) (hP.sub [] rfl) (hD.sub [] (by decide) rfl) hS (lv_sub hl [1, 0] rfl)
set_option maxHeartbeats 4000000 in
set_option maxRecDepth 100000 in
theorem c_FW_widenedSize (l : Launch) (D : va_G) (Z : Nat → Nat) (hz9 : Nat) (x : Nat) (hx9 : x ≤ 2139095040) : Met l y_FW_widenedSize (.code y_FW_widenedSize b_FW_widenedSize 8 (some .long) :: gT) ({ frames := 3, cells := 0, slots := 0, locals := 64 } : Room) (va_Pc [.long (lN (x))] (cpre D Z [] [] hz9)) (Qc_FW_widenedSize D x (va_A [] hz9)) 0 0 (fun _ => False) := by
  refine met_go (Qf := Qc_FW_widenedSize D x) (ff := fun _ _ => False) (by decide) ?_
  intro p e s m below meth c A C0 hin hsz9 hA hE hK hP hD
  obtain ⟨hx, hb, hml, hown, hts, hr, hlocks⟩ := id C0
  have hS : va_S A s.heap s.heap [] := va_S.rf
  have hl := lv_entry [.long (lN (x))] (n := 8) (Nat.le_of_ble_eq_true rfl)
  rw [lg_entry_eq]
  generalize (lg_sl [.long (lN (x))] ++ List.replicate (8 - (lg_sl [.long (lN (x))]).length) Slot.unset).toArray = ls at hl ⊢
  have hl : lv_has ls 8 [(0, .long (lN (x)))] := hl
  refine lv_lload_n hx hb d_FW_widenedSize_0 rfl (lv_at hl 0 rfl) ?_
  refine lv_ldc2 (v := (2139095040)) hx hb hown (hts _ kw_2_) d_FW_widenedSize_1 ?_
  refine nv_top (y := lN 2139095040) (by decide) ?_
  refine nv_lcmp_ne (tgt := 12) hx hb d_FW_widenedSize_4 d_FW_widenedSize_5 (by decide) (by omega) (by decide) (fun c4 => ?_) (fun c4 => ?_)
  · refine lv_bipush (v := iZ (29)) hx hb d_FW_widenedSize_12 (by decide) ?_
    refine lv_istore_n (lv' := [(2, .int (iZ (29))), (0, .long (lN (x)))]) hx hb d_FW_widenedSize_14 rfl hl (by decide) rfl (fun ls hl => ?_)
    refine lv_lload_n hx hb d_FW_widenedSize_15 rfl (lv_at hl 1 rfl) ?_
    refine lv_iconst (v := iZ (1)) hx hb d_FW_widenedSize_16 rfl ?_
    refine zv_top (y := bZ (true = true)) (by decide) ?_
    refine kg_i (kr_S (As := [.long (lN (x)), .int (bZ (true = true))]) (rest := []) C0 (c_FW_exponent l D Z _ x true (by omega)) q_y_FW_exponent kw_13_ kw_12_ kw_3_ hd_y_FW_exponent rfl rfl ⟨Nat.le_of_ble_eq_true rfl, Nat.le_of_ble_eq_true rfl⟩ (hP.sub (ws' := []) [] rfl) (hD.sub (ws' := []) [] (by decide) rfl) (hK.sub (tys' := []) [] rfl) hE hS (va_free (wc := []) hD hS hA [] rfl) rfl hl.1 rfl (Nat.le_of_ble_eq_true rfl) d_FW_widenedSize_17 ⟨Nat.le_of_ble_eq_true rfl, Nat.le_of_ble_eq_true rfl⟩) (fun r hr1 => ?_)
    obtain rfl : r = iZ (((fE x true : Nat) : Int)) := hr1
    refine zv_if_le (tgt := 31) hx hb d_FW_widenedSize_20 (by decide) (by have := fE_lt x true; omega) (fun c20 => ?_) (fun c20 => ?_)
    · refine lv_lload_n hx hb d_FW_widenedSize_31 rfl (lv_at hl 1 rfl) ?_
      refine lv_lconst (v := lN 0) hx hb d_FW_widenedSize_32 rfl ?_
      refine nv_lcmp_ne (tgt := 39) hx hb d_FW_widenedSize_33 d_FW_widenedSize_34 (by decide) (by omega) (by decide) (fun c33 => ?_) (fun c33 => ?_)
      · refine lv_bipush (v := iZ (22)) hx hb d_FW_widenedSize_39 (by decide) ?_
        refine lv_istore_n (lv' := [(3, .int (iZ (22))), (2, .int (iZ (29))), (0, .long (lN (x)))]) hx hb d_FW_widenedSize_41 rfl hl (by decide) rfl (fun ls hl => ?_)
        exact lp_FW_widenedSize_42 x hx9 C0 hA hE (22 + 1) 22 _ (Nat.lt_succ_self _) (by omega) (by omega) (wid_small hx9 (by omega)) (by omega) (c4) (hK.sub [] rfl) (hP.sub [] rfl) (hD.sub [] (by decide) rfl) hS (lv_sub hl [2, 0] rfl)
      · refine lv_lconst (v := lN 0) hx hb d_FW_widenedSize_37 rfl ?_
        exact er_l hx hb hr hlocks d_FW_widenedSize_38 (show lN (0) = lN (wSz x) from congrArg lN (by unfold wSz; rw [if_neg c4, if_neg (by omega), if_pos c33]))
    · refine lv_lload_n hx hb d_FW_widenedSize_23 rfl (lv_at hl 1 rfl) ?_
      refine lv_iload_n hx hb d_FW_widenedSize_24 rfl (lv_at hl 0 rfl) ?_
      refine zv_top (y := iZ (((29 : Nat) : Int))) (rfl) ?_
      refine nv_lshl (k := 29) hx hb d_FW_widenedSize_25 (rfl) (by decide) ?_
      refine lv_ldc2 (v := (4035225266123964416)) hx hb hown (hts _ kw_123_) d_FW_widenedSize_26 ?_
      refine nv_top (y := lN 4035225266123964416) (by decide) ?_
      refine nv_ladd hx hb d_FW_widenedSize_29 ?_
      exact er_l hx hb hr hlocks d_FW_widenedSize_30 (show lN ((x * 2 ^ 29) + 4035225266123964416) = lN (wSz x) from congrArg lN (by unfold wSz; rw [if_neg c4, if_pos (by omega)]))
  · refine lv_ldc2 (v := (9218868437227405312)) hx hb hown (hts _ kw_1_) d_FW_widenedSize_8 ?_
    refine nv_top (y := lN 9218868437227405312) (by decide) ?_
    exact er_l hx hb hr hlocks d_FW_widenedSize_11 (show lN (9218868437227405312) = lN (wSz x) from congrArg lN (by unfold wSz; rw [if_pos c4]))
