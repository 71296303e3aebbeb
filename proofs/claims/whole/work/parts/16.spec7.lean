theorem kw_99_ : Cond.fieldLink R_Short 25 "FloatWriter$Shortest" "coefficient" "J" ∈ gT := gT_in 88 (by decide +kernel) (by decide +kernel)
theorem kw_100_ : Cond.fieldLink R_Short 29 "FloatWriter$Shortest" "tens" "I" ∈ gT := gT_in 89 (by decide +kernel) (by decide +kernel)
theorem kw_101_ : Cond.constantLong R_Short 37 (10) ∈ gT := gT_in 447 (by decide +kernel) (by decide +kernel)
theorem kw_102_ : Cond.constantLong R_Short 93 (2) ∈ gT := gT_in 424 (by decide +kernel) (by decide +kernel)
theorem kw_103_ : Cond.fieldLink R_Short 64 "FloatWriter$Shortest" "size" "J" ∈ gT := gT_in 81 (by decide +kernel) (by decide +kernel)
theorem kw_104_ : Cond.fieldLink R_Short 71 "FloatWriter$Shortest" "sizeIsCut" "Z" ∈ gT := gT_in 82 (by decide +kernel) (by decide +kernel)
theorem kw_105_ : Cond.constantLong R_Short 118 (-1) ∈ gT := gT_in 438 (by decide +kernel) (by decide +kernel)
theorem kw_106_ : Cond.initialized R_Short ∈ gT := gT_in 5 (by decide +kernel) (by decide +kernel)
theorem kw_107_ : Cond.methodLink R_Short 120 y_Short_isNearerToOver ∈ gT := gT_in 434 (by decide +kernel) (by decide +kernel)
theorem kw_108_ : Cond.instanceMethod y_Short_isNearerToOver ∈ gT := gT_in 436 (by decide +kernel) (by decide +kernel)
theorem kw_109_ : Cond.selects R_Short y_Short_isNearerToOver y_Short_isNearerToOver ∈ gT := gT_sel (by decide +kernel) (by decide +kernel)
theorem kw_110_ : Cond.fieldLink R_Short 95 "FloatWriter$Shortest" "high" "J" ∈ gT := gT_in 85 (by decide +kernel) (by decide +kernel)
theorem kw_111_ : Cond.fieldLink R_Short 98 "FloatWriter$Shortest" "highIsCut" "Z" ∈ gT := gT_in 86 (by decide +kernel) (by decide +kernel)
theorem kw_112_ : Cond.fieldLink R_Short 101 "FloatWriter$Shortest" "boundsCount" "Z" ∈ gT := gT_in 87 (by decide +kernel) (by decide +kernel)
theorem kw_113_ : Cond.fieldLink R_Short 86 "FloatWriter$Shortest" "low" "J" ∈ gT := gT_in 83 (by decide +kernel) (by decide +kernel)
theorem kw_114_ : Cond.fieldLink R_Short 90 "FloatWriter$Shortest" "lowIsCut" "Z" ∈ gT := gT_in 84 (by decide +kernel) (by decide +kernel)
theorem kw_115_ : Cond.methodLink R_Short 114 y_Short_nearestOfUnit ∈ gT := gT_in 430 (by decide +kernel) (by decide +kernel)
theorem kw_116_ : Cond.instanceMethod y_Short_nearestOfUnit ∈ gT := gT_in 432 (by decide +kernel) (by decide +kernel)
theorem kw_117_ : Cond.selects R_Short y_Short_nearestOfUnit y_Short_nearestOfUnit ∈ gT := gT_sel (by decide +kernel) (by decide +kernel)
set_option maxRecDepth 100000 in
theorem q_y_Short_isNearerToOver : Cond.code y_Short_isNearerToOver b_Short_isNearerToOver 7 (some .boolean) ∈ gT := gT_in 437 rfl rfl
set_option maxRecDepth 100000 in
theorem q_y_Short_nearestOfUnit : Cond.code y_Short_nearestOfUnit b_Short_nearestOfUnit 9 (some .long) ∈ gT := gT_in 433 rfl rfl
theorem hd_y_Short_isNearerToOver : y_Short_isNearerToOver.cls ≠ "java/lang/invoke/MethodHandle" ∧ y_Short_isNearerToOver.cls ≠ "java/lang/invoke/VarHandle" ∧ (parseMethodDescriptor y_Short_isNearerToOver.desc).map (fun d => d.parameters.length) = some 2 := by decide +kernel
theorem hd_y_Short_nearestOfUnit : y_Short_nearestOfUnit.cls ≠ "java/lang/invoke/MethodHandle" ∧ y_Short_nearestOfUnit.cls ≠ "java/lang/invoke/VarHandle" ∧ (parseMethodDescriptor y_Short_nearestOfUnit.desc).map (fun d => d.parameters.length) = some 1 := by decide +kernel
theorem d_Short_coefficient_0 : decode b_Short_coefficient 0 = .ok (.aload_n 0, 1) := by decide +kernel
theorem d_Short_coefficient_1 : decode b_Short_coefficient 1 = .ok (.getfield 25, 3) := by decide +kernel
theorem d_Short_coefficient_4 : decode b_Short_coefficient 4 = .ok (.lreturn, 1) := by decide +kernel
theorem d_Short_tens_0 : decode b_Short_tens 0 = .ok (.aload_n 0, 1) := by decide +kernel
theorem d_Short_tens_1 : decode b_Short_tens 1 = .ok (.getfield 29, 3) := by decide +kernel
theorem d_Short_tens_4 : decode b_Short_tens 4 = .ok (.ireturn, 1) := by decide +kernel
theorem d_Short_firstPower_0 : decode b_Short_firstPower 0 = .ok (.iconst 1, 1) := by decide +kernel
theorem d_Short_firstPower_1 : decode b_Short_firstPower 1 = .ok (.istore_n 1, 1) := by decide +kernel
theorem d_Short_firstPower_2 : decode b_Short_firstPower 2 = .ok (.iload_n 1, 1) := by decide +kernel
theorem d_Short_firstPower_3 : decode b_Short_firstPower 3 = .ok (.bipush 18, 2) := by decide +kernel
theorem d_Short_firstPower_5 : decode b_Short_firstPower 5 = .ok (.if_icmp .ge 21, 3) := by decide +kernel
theorem d_Short_firstPower_8 : decode b_Short_firstPower 8 = .ok (.aload_n 0, 1) := by decide +kernel
theorem d_Short_firstPower_9 : decode b_Short_firstPower 9 = .ok (.getfield 25, 3) := by decide +kernel
theorem d_Short_firstPower_12 : decode b_Short_firstPower 12 = .ok (.iload_n 1, 1) := by decide +kernel
theorem d_Short_firstPower_13 : decode b_Short_firstPower 13 = .ok (.invokestatic 33, 3) := by decide +kernel
theorem d_Short_firstPower_16 : decode b_Short_firstPower 16 = .ok (.lcmp, 1) := by decide +kernel
theorem d_Short_firstPower_17 : decode b_Short_firstPower 17 = .ok (.ifCond .lt 9, 3) := by decide +kernel
theorem d_Short_firstPower_20 : decode b_Short_firstPower 20 = .ok (.iinc 1 1, 3) := by decide +kernel
theorem d_Short_firstPower_23 : decode b_Short_firstPower 23 = .ok (.goto (-21), 3) := by decide +kernel
theorem d_Short_firstPower_26 : decode b_Short_firstPower 26 = .ok (.aload_n 0, 1) := by decide +kernel
theorem d_Short_firstPower_27 : decode b_Short_firstPower 27 = .ok (.getfield 29, 3) := by decide +kernel
theorem d_Short_firstPower_30 : decode b_Short_firstPower 30 = .ok (.iload_n 1, 1) := by decide +kernel
theorem d_Short_firstPower_31 : decode b_Short_firstPower 31 = .ok (.iadd, 1) := by decide +kernel
theorem d_Short_firstPower_32 : decode b_Short_firstPower 32 = .ok (.iconst 1, 1) := by decide +kernel
theorem d_Short_firstPower_33 : decode b_Short_firstPower 33 = .ok (.isub, 1) := by decide +kernel
theorem d_Short_firstPower_34 : decode b_Short_firstPower 34 = .ok (.ireturn, 1) := by decide +kernel
theorem d_Short_figureAt_0 : decode b_Short_figureAt 0 = .ok (.iload_n 1, 1) := by decide +kernel
theorem d_Short_figureAt_1 : decode b_Short_figureAt 1 = .ok (.aload_n 0, 1) := by decide +kernel
theorem d_Short_figureAt_2 : decode b_Short_figureAt 2 = .ok (.getfield 29, 3) := by decide +kernel
theorem d_Short_figureAt_5 : decode b_Short_figureAt 5 = .ok (.isub, 1) := by decide +kernel
theorem d_Short_figureAt_6 : decode b_Short_figureAt 6 = .ok (.istore_n 2, 1) := by decide +kernel
theorem d_Short_figureAt_7 : decode b_Short_figureAt 7 = .ok (.iload_n 2, 1) := by decide +kernel
theorem d_Short_figureAt_8 : decode b_Short_figureAt 8 = .ok (.ifCond .lt 9, 3) := by decide +kernel
theorem d_Short_figureAt_11 : decode b_Short_figureAt 11 = .ok (.iload_n 2, 1) := by decide +kernel
theorem d_Short_figureAt_12 : decode b_Short_figureAt 12 = .ok (.bipush 18, 2) := by decide +kernel
theorem d_Short_figureAt_14 : decode b_Short_figureAt 14 = .ok (.if_icmp .le 5, 3) := by decide +kernel
theorem d_Short_figureAt_17 : decode b_Short_figureAt 17 = .ok (.iconst 0, 1) := by decide +kernel
theorem d_Short_figureAt_18 : decode b_Short_figureAt 18 = .ok (.ireturn, 1) := by decide +kernel
theorem d_Short_figureAt_19 : decode b_Short_figureAt 19 = .ok (.aload_n 0, 1) := by decide +kernel
theorem d_Short_figureAt_20 : decode b_Short_figureAt 20 = .ok (.getfield 25, 3) := by decide +kernel
theorem d_Short_figureAt_23 : decode b_Short_figureAt 23 = .ok (.iload_n 2, 1) := by decide +kernel
theorem d_Short_figureAt_24 : decode b_Short_figureAt 24 = .ok (.invokestatic 33, 3) := by decide +kernel
theorem d_Short_figureAt_27 : decode b_Short_figureAt 27 = .ok (.ldiv, 1) := by decide +kernel
theorem d_Short_figureAt_28 : decode b_Short_figureAt 28 = .ok (.ldc2_w 37, 3) := by decide +kernel
theorem d_Short_figureAt_31 : decode b_Short_figureAt 31 = .ok (.lrem, 1) := by decide +kernel
theorem d_Short_figureAt_32 : decode b_Short_figureAt 32 = .ok (.l2i, 1) := by decide +kernel
theorem d_Short_figureAt_33 : decode b_Short_figureAt 33 = .ok (.ireturn, 1) := by decide +kernel
theorem d_Short_isNearerToOver_0 : decode b_Short_isNearerToOver 0 = .ok (.lload_n 1, 1) := by decide +kernel
theorem d_Short_isNearerToOver_1 : decode b_Short_isNearerToOver 1 = .ok (.lload_n 3, 1) := by decide +kernel
theorem d_Short_isNearerToOver_2 : decode b_Short_isNearerToOver 2 = .ok (.ldc2_w 93, 3) := by decide +kernel
theorem d_Short_isNearerToOver_5 : decode b_Short_isNearerToOver 5 = .ok (.ldiv, 1) := by decide +kernel
theorem d_Short_isNearerToOver_6 : decode b_Short_isNearerToOver 6 = .ok (.ladd, 1) := by decide +kernel
theorem d_Short_isNearerToOver_7 : decode b_Short_isNearerToOver 7 = .ok (.lstore 5, 2) := by decide +kernel
theorem d_Short_isNearerToOver_9 : decode b_Short_isNearerToOver 9 = .ok (.aload_n 0, 1) := by decide +kernel
theorem d_Short_isNearerToOver_10 : decode b_Short_isNearerToOver 10 = .ok (.getfield 64, 3) := by decide +kernel
theorem d_Short_isNearerToOver_13 : decode b_Short_isNearerToOver 13 = .ok (.lload 5, 2) := by decide +kernel
theorem d_Short_isNearerToOver_15 : decode b_Short_isNearerToOver 15 = .ok (.lcmp, 1) := by decide +kernel
theorem d_Short_isNearerToOver_16 : decode b_Short_isNearerToOver 16 = .ok (.ifCond .ne 10, 3) := by decide +kernel
theorem d_Short_isNearerToOver_19 : decode b_Short_isNearerToOver 19 = .ok (.aload_n 0, 1) := by decide +kernel
theorem d_Short_isNearerToOver_20 : decode b_Short_isNearerToOver 20 = .ok (.getfield 71, 3) := by decide +kernel
theorem d_Short_isNearerToOver_23 : decode b_Short_isNearerToOver 23 = .ok (.ifCond .eq 19, 3) := by decide +kernel
theorem d_Short_isNearerToOver_26 : decode b_Short_isNearerToOver 26 = .ok (.aload_n 0, 1) := by decide +kernel
theorem d_Short_isNearerToOver_27 : decode b_Short_isNearerToOver 27 = .ok (.getfield 64, 3) := by decide +kernel
theorem d_Short_isNearerToOver_30 : decode b_Short_isNearerToOver 30 = .ok (.lload 5, 2) := by decide +kernel
theorem d_Short_isNearerToOver_32 : decode b_Short_isNearerToOver 32 = .ok (.lcmp, 1) := by decide +kernel
theorem d_Short_isNearerToOver_33 : decode b_Short_isNearerToOver 33 = .ok (.ifCond .lt 7, 3) := by decide +kernel
theorem d_Short_isNearerToOver_36 : decode b_Short_isNearerToOver 36 = .ok (.iconst 1, 1) := by decide +kernel
theorem d_Short_isNearerToOver_37 : decode b_Short_isNearerToOver 37 = .ok (.goto 4, 3) := by decide +kernel
theorem d_Short_isNearerToOver_40 : decode b_Short_isNearerToOver 40 = .ok (.iconst 0, 1) := by decide +kernel
theorem d_Short_isNearerToOver_41 : decode b_Short_isNearerToOver 41 = .ok (.ireturn, 1) := by decide +kernel
theorem d_Short_isNearerToOver_42 : decode b_Short_isNearerToOver 42 = .ok (.lload_n 1, 1) := by decide +kernel
theorem d_Short_isNearerToOver_43 : decode b_Short_isNearerToOver 43 = .ok (.lload_n 3, 1) := by decide +kernel
theorem d_Short_isNearerToOver_44 : decode b_Short_isNearerToOver 44 = .ok (.ldiv, 1) := by decide +kernel
theorem d_Short_isNearerToOver_45 : decode b_Short_isNearerToOver 45 = .ok (.ldc2_w 93, 3) := by decide +kernel
theorem d_Short_isNearerToOver_48 : decode b_Short_isNearerToOver 48 = .ok (.lrem, 1) := by decide +kernel
theorem d_Short_isNearerToOver_49 : decode b_Short_isNearerToOver 49 = .ok (.lconst 1, 1) := by decide +kernel
theorem d_Short_isNearerToOver_50 : decode b_Short_isNearerToOver 50 = .ok (.lcmp, 1) := by decide +kernel
theorem d_Short_isNearerToOver_51 : decode b_Short_isNearerToOver 51 = .ok (.ifCond .ne 7, 3) := by decide +kernel
theorem d_Short_isNearerToOver_54 : decode b_Short_isNearerToOver 54 = .ok (.iconst 1, 1) := by decide +kernel
theorem d_Short_isNearerToOver_55 : decode b_Short_isNearerToOver 55 = .ok (.goto 4, 3) := by decide +kernel
theorem d_Short_isNearerToOver_58 : decode b_Short_isNearerToOver 58 = .ok (.iconst 0, 1) := by decide +kernel
theorem d_Short_isNearerToOver_59 : decode b_Short_isNearerToOver 59 = .ok (.ireturn, 1) := by decide +kernel
theorem d_Short_nearestOfUnit_0 : decode b_Short_nearestOfUnit 0 = .ok (.aload_n 0, 1) := by decide +kernel
theorem d_Short_nearestOfUnit_1 : decode b_Short_nearestOfUnit 1 = .ok (.getfield 64, 3) := by decide +kernel
theorem d_Short_nearestOfUnit_4 : decode b_Short_nearestOfUnit 4 = .ok (.aload_n 0, 1) := by decide +kernel
theorem d_Short_nearestOfUnit_5 : decode b_Short_nearestOfUnit 5 = .ok (.getfield 64, 3) := by decide +kernel
theorem d_Short_nearestOfUnit_8 : decode b_Short_nearestOfUnit 8 = .ok (.lload_n 1, 1) := by decide +kernel
theorem d_Short_nearestOfUnit_9 : decode b_Short_nearestOfUnit 9 = .ok (.lrem, 1) := by decide +kernel
theorem d_Short_nearestOfUnit_10 : decode b_Short_nearestOfUnit 10 = .ok (.lsub, 1) := by decide +kernel
theorem d_Short_nearestOfUnit_11 : decode b_Short_nearestOfUnit 11 = .ok (.lstore_n 3, 1) := by decide +kernel
theorem d_Short_nearestOfUnit_12 : decode b_Short_nearestOfUnit 12 = .ok (.lload_n 3, 1) := by decide +kernel
theorem d_Short_nearestOfUnit_13 : decode b_Short_nearestOfUnit 13 = .ok (.lload_n 1, 1) := by decide +kernel
theorem d_Short_nearestOfUnit_14 : decode b_Short_nearestOfUnit 14 = .ok (.ladd, 1) := by decide +kernel
theorem d_Short_nearestOfUnit_15 : decode b_Short_nearestOfUnit 15 = .ok (.lstore 5, 2) := by decide +kernel
theorem d_Short_nearestOfUnit_17 : decode b_Short_nearestOfUnit 17 = .ok (.lload_n 3, 1) := by decide +kernel
theorem d_Short_nearestOfUnit_18 : decode b_Short_nearestOfUnit 18 = .ok (.aload_n 0, 1) := by decide +kernel
theorem d_Short_nearestOfUnit_19 : decode b_Short_nearestOfUnit 19 = .ok (.getfield 86, 3) := by decide +kernel
theorem d_Short_nearestOfUnit_22 : decode b_Short_nearestOfUnit 22 = .ok (.lcmp, 1) := by decide +kernel
theorem d_Short_nearestOfUnit_23 : decode b_Short_nearestOfUnit 23 = .ok (.ifCond .gt 26, 3) := by decide +kernel
theorem d_Short_nearestOfUnit_26 : decode b_Short_nearestOfUnit 26 = .ok (.lload_n 3, 1) := by decide +kernel
theorem d_Short_nearestOfUnit_27 : decode b_Short_nearestOfUnit 27 = .ok (.aload_n 0, 1) := by decide +kernel
theorem d_Short_nearestOfUnit_28 : decode b_Short_nearestOfUnit 28 = .ok (.getfield 86, 3) := by decide +kernel
theorem d_Short_nearestOfUnit_31 : decode b_Short_nearestOfUnit 31 = .ok (.lcmp, 1) := by decide +kernel
theorem d_Short_nearestOfUnit_32 : decode b_Short_nearestOfUnit 32 = .ok (.ifCond .ne 21, 3) := by decide +kernel
theorem d_Short_nearestOfUnit_35 : decode b_Short_nearestOfUnit 35 = .ok (.aload_n 0, 1) := by decide +kernel
theorem d_Short_nearestOfUnit_36 : decode b_Short_nearestOfUnit 36 = .ok (.getfield 90, 3) := by decide +kernel
theorem d_Short_nearestOfUnit_39 : decode b_Short_nearestOfUnit 39 = .ok (.ifCond .ne 14, 3) := by decide +kernel
theorem d_Short_nearestOfUnit_42 : decode b_Short_nearestOfUnit 42 = .ok (.aload_n 0, 1) := by decide +kernel
theorem d_Short_nearestOfUnit_43 : decode b_Short_nearestOfUnit 43 = .ok (.getfield 101, 3) := by decide +kernel
theorem d_Short_nearestOfUnit_46 : decode b_Short_nearestOfUnit 46 = .ok (.ifCond .eq 7, 3) := by decide +kernel
theorem d_Short_nearestOfUnit_49 : decode b_Short_nearestOfUnit 49 = .ok (.iconst 1, 1) := by decide +kernel
theorem d_Short_nearestOfUnit_50 : decode b_Short_nearestOfUnit 50 = .ok (.goto 4, 3) := by decide +kernel
theorem d_Short_nearestOfUnit_53 : decode b_Short_nearestOfUnit 53 = .ok (.iconst 0, 1) := by decide +kernel
theorem d_Short_nearestOfUnit_54 : decode b_Short_nearestOfUnit 54 = .ok (.istore 7, 2) := by decide +kernel
theorem d_Short_nearestOfUnit_56 : decode b_Short_nearestOfUnit 56 = .ok (.lload 5, 2) := by decide +kernel
theorem d_Short_nearestOfUnit_58 : decode b_Short_nearestOfUnit 58 = .ok (.aload_n 0, 1) := by decide +kernel
theorem d_Short_nearestOfUnit_59 : decode b_Short_nearestOfUnit 59 = .ok (.getfield 95, 3) := by decide +kernel
theorem d_Short_nearestOfUnit_62 : decode b_Short_nearestOfUnit 62 = .ok (.lcmp, 1) := by decide +kernel
theorem d_Short_nearestOfUnit_63 : decode b_Short_nearestOfUnit 63 = .ok (.ifCond .lt 27, 3) := by decide +kernel
theorem d_Short_nearestOfUnit_66 : decode b_Short_nearestOfUnit 66 = .ok (.lload 5, 2) := by decide +kernel
theorem d_Short_nearestOfUnit_68 : decode b_Short_nearestOfUnit 68 = .ok (.aload_n 0, 1) := by decide +kernel
theorem d_Short_nearestOfUnit_69 : decode b_Short_nearestOfUnit 69 = .ok (.getfield 95, 3) := by decide +kernel
theorem d_Short_nearestOfUnit_72 : decode b_Short_nearestOfUnit 72 = .ok (.lcmp, 1) := by decide +kernel
theorem d_Short_nearestOfUnit_73 : decode b_Short_nearestOfUnit 73 = .ok (.ifCond .ne 21, 3) := by decide +kernel
theorem d_Short_nearestOfUnit_76 : decode b_Short_nearestOfUnit 76 = .ok (.aload_n 0, 1) := by decide +kernel
theorem d_Short_nearestOfUnit_77 : decode b_Short_nearestOfUnit 77 = .ok (.getfield 98, 3) := by decide +kernel
theorem d_Short_nearestOfUnit_80 : decode b_Short_nearestOfUnit 80 = .ok (.ifCond .ne 10, 3) := by decide +kernel
theorem d_Short_nearestOfUnit_83 : decode b_Short_nearestOfUnit 83 = .ok (.aload_n 0, 1) := by decide +kernel
theorem d_Short_nearestOfUnit_84 : decode b_Short_nearestOfUnit 84 = .ok (.getfield 101, 3) := by decide +kernel
theorem d_Short_nearestOfUnit_87 : decode b_Short_nearestOfUnit 87 = .ok (.ifCond .eq 7, 3) := by decide +kernel
theorem d_Short_nearestOfUnit_90 : decode b_Short_nearestOfUnit 90 = .ok (.iconst 1, 1) := by decide +kernel
theorem d_Short_nearestOfUnit_91 : decode b_Short_nearestOfUnit 91 = .ok (.goto 4, 3) := by decide +kernel
theorem d_Short_nearestOfUnit_94 : decode b_Short_nearestOfUnit 94 = .ok (.iconst 0, 1) := by decide +kernel
theorem d_Short_nearestOfUnit_95 : decode b_Short_nearestOfUnit 95 = .ok (.istore 8, 2) := by decide +kernel
theorem d_Short_nearestOfUnit_97 : decode b_Short_nearestOfUnit 97 = .ok (.iload 7, 2) := by decide +kernel
theorem d_Short_nearestOfUnit_99 : decode b_Short_nearestOfUnit 99 = .ok (.ifCond .eq 24, 3) := by decide +kernel
theorem d_Short_nearestOfUnit_102 : decode b_Short_nearestOfUnit 102 = .ok (.iload 8, 2) := by decide +kernel
theorem d_Short_nearestOfUnit_104 : decode b_Short_nearestOfUnit 104 = .ok (.ifCond .eq 19, 3) := by decide +kernel
theorem d_Short_nearestOfUnit_107 : decode b_Short_nearestOfUnit 107 = .ok (.aload_n 0, 1) := by decide +kernel
theorem d_Short_nearestOfUnit_108 : decode b_Short_nearestOfUnit 108 = .ok (.lload_n 3, 1) := by decide +kernel
theorem d_Short_nearestOfUnit_109 : decode b_Short_nearestOfUnit 109 = .ok (.lload_n 1, 1) := by decide +kernel
theorem d_Short_nearestOfUnit_110 : decode b_Short_nearestOfUnit 110 = .ok (.invokevirtual 120, 3) := by decide +kernel
theorem d_Short_nearestOfUnit_113 : decode b_Short_nearestOfUnit 113 = .ok (.ifCond .eq 8, 3) := by decide +kernel
theorem d_Short_nearestOfUnit_116 : decode b_Short_nearestOfUnit 116 = .ok (.lload 5, 2) := by decide +kernel
theorem d_Short_nearestOfUnit_118 : decode b_Short_nearestOfUnit 118 = .ok (.goto 4, 3) := by decide +kernel
theorem d_Short_nearestOfUnit_121 : decode b_Short_nearestOfUnit 121 = .ok (.lload_n 3, 1) := by decide +kernel
theorem d_Short_nearestOfUnit_122 : decode b_Short_nearestOfUnit 122 = .ok (.lreturn, 1) := by decide +kernel
theorem d_Short_nearestOfUnit_123 : decode b_Short_nearestOfUnit 123 = .ok (.iload 7, 2) := by decide +kernel
theorem d_Short_nearestOfUnit_125 : decode b_Short_nearestOfUnit 125 = .ok (.ifCond .eq 5, 3) := by decide +kernel
theorem d_Short_nearestOfUnit_128 : decode b_Short_nearestOfUnit 128 = .ok (.lload_n 3, 1) := by decide +kernel
theorem d_Short_nearestOfUnit_129 : decode b_Short_nearestOfUnit 129 = .ok (.lreturn, 1) := by decide +kernel
theorem d_Short_nearestOfUnit_130 : decode b_Short_nearestOfUnit 130 = .ok (.iload 8, 2) := by decide +kernel
theorem d_Short_nearestOfUnit_132 : decode b_Short_nearestOfUnit 132 = .ok (.ifCond .eq 8, 3) := by decide +kernel
theorem d_Short_nearestOfUnit_135 : decode b_Short_nearestOfUnit 135 = .ok (.lload 5, 2) := by decide +kernel
theorem d_Short_nearestOfUnit_137 : decode b_Short_nearestOfUnit 137 = .ok (.goto 6, 3) := by decide +kernel
theorem d_Short_nearestOfUnit_140 : decode b_Short_nearestOfUnit 140 = .ok (.ldc2_w 118, 3) := by decide +kernel
theorem d_Short_nearestOfUnit_143 : decode b_Short_nearestOfUnit 143 = .ok (.lreturn, 1) := by decide +kernel
theorem d_Short_nearestOfLeastLength_0 : decode b_Short_nearestOfLeastLength 0 = .ok (.iconst 2, 1) := by decide +kernel
theorem d_Short_nearestOfLeastLength_1 : decode b_Short_nearestOfLeastLength 1 = .ok (.istore_n 1, 1) := by decide +kernel
theorem d_Short_nearestOfLeastLength_2 : decode b_Short_nearestOfLeastLength 2 = .ok (.iload_n 1, 1) := by decide +kernel
theorem d_Short_nearestOfLeastLength_3 : decode b_Short_nearestOfLeastLength 3 = .ok (.bipush 18, 2) := by decide +kernel
theorem d_Short_nearestOfLeastLength_5 : decode b_Short_nearestOfLeastLength 5 = .ok (.if_icmp .ge 31, 3) := by decide +kernel
theorem d_Short_nearestOfLeastLength_8 : decode b_Short_nearestOfLeastLength 8 = .ok (.aload_n 0, 1) := by decide +kernel
theorem d_Short_nearestOfLeastLength_9 : decode b_Short_nearestOfLeastLength 9 = .ok (.bipush 18, 2) := by decide +kernel
theorem d_Short_nearestOfLeastLength_11 : decode b_Short_nearestOfLeastLength 11 = .ok (.iload_n 1, 1) := by decide +kernel
theorem d_Short_nearestOfLeastLength_12 : decode b_Short_nearestOfLeastLength 12 = .ok (.isub, 1) := by decide +kernel
theorem d_Short_nearestOfLeastLength_13 : decode b_Short_nearestOfLeastLength 13 = .ok (.invokestatic 33, 3) := by decide +kernel
theorem d_Short_nearestOfLeastLength_16 : decode b_Short_nearestOfLeastLength 16 = .ok (.invokevirtual 114, 3) := by decide +kernel
theorem d_Short_nearestOfLeastLength_19 : decode b_Short_nearestOfLeastLength 19 = .ok (.lstore_n 2, 1) := by decide +kernel
theorem d_Short_nearestOfLeastLength_20 : decode b_Short_nearestOfLeastLength 20 = .ok (.lload_n 2, 1) := by decide +kernel
theorem d_Short_nearestOfLeastLength_21 : decode b_Short_nearestOfLeastLength 21 = .ok (.ldc2_w 118, 3) := by decide +kernel
theorem d_Short_nearestOfLeastLength_24 : decode b_Short_nearestOfLeastLength 24 = .ok (.lcmp, 1) := by decide +kernel
theorem d_Short_nearestOfLeastLength_25 : decode b_Short_nearestOfLeastLength 25 = .ok (.ifCond .eq 5, 3) := by decide +kernel
theorem d_Short_nearestOfLeastLength_28 : decode b_Short_nearestOfLeastLength 28 = .ok (.lload_n 2, 1) := by decide +kernel
theorem d_Short_nearestOfLeastLength_29 : decode b_Short_nearestOfLeastLength 29 = .ok (.lreturn, 1) := by decide +kernel
theorem d_Short_nearestOfLeastLength_30 : decode b_Short_nearestOfLeastLength 30 = .ok (.iinc 1 1, 3) := by decide +kernel
theorem d_Short_nearestOfLeastLength_33 : decode b_Short_nearestOfLeastLength 33 = .ok (.goto (-31), 3) := by decide +kernel
theorem d_Short_nearestOfLeastLength_36 : decode b_Short_nearestOfLeastLength 36 = .ok (.aload_n 0, 1) := by decide +kernel
theorem d_Short_nearestOfLeastLength_37 : decode b_Short_nearestOfLeastLength 37 = .ok (.getfield 64, 3) := by decide +kernel
theorem d_Short_nearestOfLeastLength_40 : decode b_Short_nearestOfLeastLength 40 = .ok (.lreturn, 1) := by decide +kernel
theorem d_Short_dropZeros_0 : decode b_Short_dropZeros 0 = .ok (.iconst 0, 1) := by decide +kernel
theorem d_Short_dropZeros_1 : decode b_Short_dropZeros 1 = .ok (.istore_n 1, 1) := by decide +kernel
theorem d_Short_dropZeros_2 : decode b_Short_dropZeros 2 = .ok (.iload_n 1, 1) := by decide +kernel
theorem d_Short_dropZeros_3 : decode b_Short_dropZeros 3 = .ok (.bipush 18, 2) := by decide +kernel
theorem d_Short_dropZeros_5 : decode b_Short_dropZeros 5 = .ok (.if_icmp .ge 44, 3) := by decide +kernel
theorem d_Short_dropZeros_8 : decode b_Short_dropZeros 8 = .ok (.aload_n 0, 1) := by decide +kernel
theorem d_Short_dropZeros_9 : decode b_Short_dropZeros 9 = .ok (.getfield 25, 3) := by decide +kernel
theorem d_Short_dropZeros_12 : decode b_Short_dropZeros 12 = .ok (.ldc2_w 37, 3) := by decide +kernel
theorem d_Short_dropZeros_15 : decode b_Short_dropZeros 15 = .ok (.lrem, 1) := by decide +kernel
theorem d_Short_dropZeros_16 : decode b_Short_dropZeros 16 = .ok (.lconst 0, 1) := by decide +kernel
theorem d_Short_dropZeros_17 : decode b_Short_dropZeros 17 = .ok (.lcmp, 1) := by decide +kernel
theorem d_Short_dropZeros_18 : decode b_Short_dropZeros 18 = .ok (.ifCond .ne 31, 3) := by decide +kernel
theorem d_Short_dropZeros_21 : decode b_Short_dropZeros 21 = .ok (.aload_n 0, 1) := by decide +kernel
theorem d_Short_dropZeros_22 : decode b_Short_dropZeros 22 = .ok (.dup, 1) := by decide +kernel
theorem d_Short_dropZeros_23 : decode b_Short_dropZeros 23 = .ok (.getfield 25, 3) := by decide +kernel
theorem d_Short_dropZeros_26 : decode b_Short_dropZeros 26 = .ok (.ldc2_w 37, 3) := by decide +kernel
theorem d_Short_dropZeros_29 : decode b_Short_dropZeros 29 = .ok (.ldiv, 1) := by decide +kernel
theorem d_Short_dropZeros_30 : decode b_Short_dropZeros 30 = .ok (.putfield 25, 3) := by decide +kernel
theorem d_Short_dropZeros_33 : decode b_Short_dropZeros 33 = .ok (.aload_n 0, 1) := by decide +kernel
theorem d_Short_dropZeros_34 : decode b_Short_dropZeros 34 = .ok (.dup, 1) := by decide +kernel
theorem d_Short_dropZeros_35 : decode b_Short_dropZeros 35 = .ok (.getfield 29, 3) := by decide +kernel
theorem d_Short_dropZeros_38 : decode b_Short_dropZeros 38 = .ok (.iconst 1, 1) := by decide +kernel
theorem d_Short_dropZeros_39 : decode b_Short_dropZeros 39 = .ok (.iadd, 1) := by decide +kernel
theorem d_Short_dropZeros_40 : decode b_Short_dropZeros 40 = .ok (.putfield 29, 3) := by decide +kernel
theorem d_Short_dropZeros_43 : decode b_Short_dropZeros 43 = .ok (.iinc 1 1, 3) := by decide +kernel
theorem d_Short_dropZeros_46 : decode b_Short_dropZeros 46 = .ok (.goto (-44), 3) := by decide +kernel
theorem d_Short_dropZeros_49 : decode b_Short_dropZeros 49 = .ok (.return_, 1) := by decide +kernel
abbrev Qc_Short_coefficient (D : va_G) (h0 : Nat) (qe : Nat) (qx : Nat) (sz : Nat) (sc : Bool) (lo : Nat) (lc : Bool) (hi : Nat) (hc : Bool) (bc : Bool) (co : Nat) (tn : Int) (A : Nat → Prop) : Array Value → State → Outcome → State → Prop := vp_Sl (fun r : Int64 => r = lN (co))
set_option maxHeartbeats 4000000 in
set_option maxRecDepth 100000 in
theorem c_Short_coefficient (l : Launch) (D : va_G) (Z : Nat → Nat) (hz9 : Nat) (h0 : Nat) (qe : Nat) (qx : Nat) (sz : Nat) (sc : Bool) (lo : Nat) (lc : Bool) (hi : Nat) (hc : Bool) (bc : Bool) (co : Nat) (tn : Int)  : Met l y_Short_coefficient (.code y_Short_coefficient b_Short_coefficient 1 (some .long) :: gT) ({ frames := 0, cells := 0, slots := 0, locals := 0 } : Room) (va_Pc [.ref h0] (cpre D Z [(h0, .inr (4, [.ref qe, .ref qx, .long (lN (sz)), .int (bZ (sc = true)), .long (lN (lo)), .int (bZ (lc = true)), .long (lN (hi)), .int (bZ (hc = true)), .int (bZ (bc = true)), .long (lN (co)), .int (iZ (tn))]))] [] hz9)) (Qc_Short_coefficient D h0 qe qx sz sc lo lc hi hc bc co tn (va_A [(h0, .inr (4, [.ref qe, .ref qx, .long (lN (sz)), .int (bZ (sc = true)), .long (lN (lo)), .int (bZ (lc = true)), .long (lN (hi)), .int (bZ (hc = true)), .int (bZ (bc = true)), .long (lN (co)), .int (iZ (tn))]))] hz9)) 0 0 (fun _ => False) := by
  refine met_go (Qf := Qc_Short_coefficient D h0 qe qx sz sc lo lc hi hc bc co tn) (ff := fun _ _ => False) (by decide) ?_
  intro p e s m below meth c A C0 hin hsz9 hA hE hK hP hD
  obtain ⟨hx, hb, hml, hown, hts, hr, hlocks⟩ := id C0
  have hS : va_S A s.heap s.heap [] := va_S.rf
  have hl := lv_entry [.ref h0] (n := 1) (Nat.le_of_ble_eq_true rfl)
  rw [lg_entry_eq]
  generalize (lg_sl [.ref h0] ++ List.replicate (1 - (lg_sl [.ref h0]).length) Slot.unset).toArray = ls at hl ⊢
  have hl : lv_has ls 1 [(0, .ref h0)] := hl
  refine lv_aload_n hx hb d_Short_coefficient_0 rfl (lv_at hl 0 rfl) ?_
  refine va_get (D := D) (ci := 4) (v := .long (lN (co))) (C := R_Short) (T := F_Short) (N := 11) hx hb hts i_Short hown hK hP 0 rfl rfl 9 (by decide) (hts _ kw_99_) (fun _ h9 => h9) rfl d_Short_coefficient_1 ?_
  exact er_l hx hb hr hlocks d_Short_coefficient_4 (show lN (co) = lN (co) from rfl)
abbrev Qc_Short_tens (D : va_G) (h0 : Nat) (qe : Nat) (qx : Nat) (sz : Nat) (sc : Bool) (lo : Nat) (lc : Bool) (hi : Nat) (hc : Bool) (bc : Bool) (co : Nat) (tn : Int) (A : Nat → Prop) : Array Value → State → Outcome → State → Prop := vp_Si (fun r : Int32 => r = iZ (tn))
set_option maxHeartbeats 4000000 in
set_option maxRecDepth 100000 in
theorem c_Short_tens (l : Launch) (D : va_G) (Z : Nat → Nat) (hz9 : Nat) (h0 : Nat) (qe : Nat) (qx : Nat) (sz : Nat) (sc : Bool) (lo : Nat) (lc : Bool) (hi : Nat) (hc : Bool) (bc : Bool) (co : Nat) (tn : Int)  : Met l y_Short_tens (.code y_Short_tens b_Short_tens 1 (some .int) :: gT) ({ frames := 0, cells := 0, slots := 0, locals := 0 } : Room) (va_Pc [.ref h0] (cpre D Z [(h0, .inr (4, [.ref qe, .ref qx, .long (lN (sz)), .int (bZ (sc = true)), .long (lN (lo)), .int (bZ (lc = true)), .long (lN (hi)), .int (bZ (hc = true)), .int (bZ (bc = true)), .long (lN (co)), .int (iZ (tn))]))] [] hz9)) (Qc_Short_tens D h0 qe qx sz sc lo lc hi hc bc co tn (va_A [(h0, .inr (4, [.ref qe, .ref qx, .long (lN (sz)), .int (bZ (sc = true)), .long (lN (lo)), .int (bZ (lc = true)), .long (lN (hi)), .int (bZ (hc = true)), .int (bZ (bc = true)), .long (lN (co)), .int (iZ (tn))]))] hz9)) 0 0 (fun _ => False) := by
  refine met_go (Qf := Qc_Short_tens D h0 qe qx sz sc lo lc hi hc bc co tn) (ff := fun _ _ => False) (by decide) ?_
  intro p e s m below meth c A C0 hin hsz9 hA hE hK hP hD
  obtain ⟨hx, hb, hml, hown, hts, hr, hlocks⟩ := id C0
  have hS : va_S A s.heap s.heap [] := va_S.rf
  have hl := lv_entry [.ref h0] (n := 1) (Nat.le_of_ble_eq_true rfl)
  rw [lg_entry_eq]
  generalize (lg_sl [.ref h0] ++ List.replicate (1 - (lg_sl [.ref h0]).length) Slot.unset).toArray = ls at hl ⊢
  have hl : lv_has ls 1 [(0, .ref h0)] := hl
  refine lv_aload_n hx hb d_Short_tens_0 rfl (lv_at hl 0 rfl) ?_
  refine va_get (D := D) (ci := 4) (v := .int (iZ (tn))) (C := R_Short) (T := F_Short) (N := 11) hx hb hts i_Short hown hK hP 0 rfl rfl 10 (by decide) (hts _ kw_100_) (fun _ h9 => h9) rfl d_Short_tens_1 ?_
  exact er_i hx hb hr hlocks d_Short_tens_4 (show iZ (tn) = iZ (tn) from rfl)
abbrev Qc_Short_firstPower (D : va_G) (h0 : Nat) (qe : Nat) (qx : Nat) (sz : Nat) (sc : Bool) (lo : Nat) (lc : Bool) (hi : Nat) (hc : Bool) (bc : Bool) (co : Nat) (tn : Int) (A : Nat → Prop) : Array Value → State → Outcome → State → Prop := vp_Si (fun r : Int32 => r = iZ (tn + ((nfig co : Nat) : Int) - 1))
set_option maxHeartbeats 4000000 in
set_option maxRecDepth 100000 in
theorem lp_Short_firstPower_2 {p : Program} {l : Launch} {e : Env} {s : State} {m : MethodId} {args : Array Value} {below : List Frame} {meth : Method} {c : Code} {A : Nat → Prop} {D : va_G} {Z : Nat → Nat} (h0 : Nat) (qe : Nat) (qx : Nat) (sz : Nat) (sc : Bool) (lo : Nat) (lc : Bool) (hi : Nat) (hc : Bool) (bc : Bool) (co : Nat) (tn : Int) (hco : 0 < co ∧ co < 1000000000000000000) (htn : -100000 < tn ∧ tn < 100000) (C0 : cxA p s m args meth c b_Short_firstPower 2 R_Short (some .int)) (hA : ∀ q : Nat, s.heap.size ≤ q → A q) (hE : Ev Z A s s.heap) : ∀ (N : Nat) (k : Nat) (ls : Array Slot), 17 - k < N → (k ≤ 17) → (10 ^ k ≤ co) → va_K D classes [] s → va_P D classes [(h0, .inr (4, [.ref qe, .ref qx, .long (lN (sz)), .int (bZ (sc = true)), .long (lN (lo)), .int (bZ (lc = true)), .long (lN (hi)), .int (bZ (hc = true)), .int (bZ (bc = true)), .long (lN (co)), .int (iZ (tn))]))] s.heap → va_D A [(h0, .inr (4, [.ref qe, .ref qx, .long (lN (sz)), .int (bZ (sc = true)), .long (lN (lo)), .int (bZ (lc = true)), .long (lN (hi)), .int (bZ (hc = true)), .int (bZ (bc = true)), .long (lN (co)), .int (iZ (tn))]))] → va_S A s.heap s.heap [] → lv_has ls 2 [(0, .ref h0), (1, .int (iZ (((k + 1 : Nat) : Int))))] → W p l e ({ frames := 1, cells := 0, slots := 0, locals := 20 } : Room) s m args below meth c s.heap [] 0 0 (MQ below (Qc_Short_firstPower D h0 qe qx sz sc lo lc hi hc bc co tn A) args s 0 0 (fun _ => False)) (F0 m 2 ls []) := by
  obtain ⟨hx, hb, hml, hown, hts, hr, hlocks⟩ := id C0
  intro N
  induction N with
  | zero => intro k ls hN; exact absurd hN (Nat.not_lt_zero _)
  | succ N ih =>
    intro k ls hN hk ht hK hP hD hS hl
    refine lv_iload_n hx hb d_Short_firstPower_2 rfl (lv_at hl 1 rfl) ?_
    refine lv_bipush (v := iZ (18)) hx hb d_Short_firstPower_3 (by decide) ?_
    refine zv_icmp_ge (tgt := 26) hx hb d_Short_firstPower_5 (by decide) (by omega) (by omega) (fun c5 => ?_) (fun c5 => ?_)
    · have hlt : co < 10 ^ (k + 1) := Nat.lt_of_lt_of_le hco.2 (p10_le (i := 18) (by omega))
      refine lv_aload_n hx hb d_Short_firstPower_26 rfl (lv_at hl 0 rfl) ?_
      refine va_get (D := D) (ci := 4) (v := .int (iZ (tn))) (C := R_Short) (T := F_Short) (N := 11) hx hb hts i_Short hown hK hP 0 rfl rfl 10 (by decide) (hts _ kw_100_) (fun _ h9 => h9) rfl d_Short_firstPower_27 ?_
      refine lv_iload_n hx hb d_Short_firstPower_30 rfl (lv_at hl 1 rfl) ?_
      refine zv_iadd hx hb d_Short_firstPower_31 ?_
      refine lv_iconst (v := iZ (1)) hx hb d_Short_firstPower_32 rfl ?_
      refine zv_isub hx hb d_Short_firstPower_33 ?_
      exact er_i hx hb hr hlocks d_Short_firstPower_34 (show iZ ((tn + ((k + 1 : Nat) : Int)) - 1) = iZ (tn + ((nfig co : Nat) : Int) - 1) from by rw [nfig_of ht hlt])
    · refine lv_aload_n hx hb d_Short_firstPower_8 rfl (lv_at hl 0 rfl) ?_
      refine va_get (D := D) (ci := 4) (v := .long (lN (co))) (C := R_Short) (T := F_Short) (N := 11) hx hb hts i_Short hown hK hP 0 rfl rfl 9 (by decide) (hts _ kw_99_) (fun _ h9 => h9) rfl d_Short_firstPower_9 ?_
      refine lv_iload_n hx hb d_Short_firstPower_12 rfl (lv_at hl 1 rfl) ?_
      refine kg_l (kr_SN (host := R_FW) (As := [.int (iZ (((k + 1 : Nat) : Int)))]) (rest := [.long (lN (co))]) C0 (c_FW_tenTo l D Z _ (k + 1) (by omega)) q_y_FW_tenTo (hE.nw 5 rfl) kw_31_ kw_3_ hd_y_FW_tenTo rfl rfl ⟨Nat.le_of_ble_eq_true rfl, Nat.le_of_ble_eq_true rfl⟩ (hP.sub (ws' := []) [] rfl) (hD.sub (ws' := []) [] (by decide) rfl) (hK.sub (tys' := []) [] rfl) hE hS (va_free (wc := []) hD hS hA [] rfl) rfl hl.1 rfl (Nat.le_of_ble_eq_true rfl) d_Short_firstPower_13 ⟨Nat.le_of_ble_eq_true rfl, Nat.le_of_ble_eq_true rfl⟩) (fun r hr1 => ?_)
      obtain rfl : r = lN (10 ^ (k + 1)) := hr1
      refine nv_lcmp_lt (tgt := 26) hx hb d_Short_firstPower_16 d_Short_firstPower_17 (by decide) (by omega) (ten_63 (by omega)) (fun c16 => ?_) (fun c16 => ?_)
      · have hlt : co < 10 ^ (k + 1) := c16
        refine lv_aload_n hx hb d_Short_firstPower_26 rfl (lv_at hl 0 rfl) ?_
        refine va_get (D := D) (ci := 4) (v := .int (iZ (tn))) (C := R_Short) (T := F_Short) (N := 11) hx hb hts i_Short hown hK hP 0 rfl rfl 10 (by decide) (hts _ kw_100_) (fun _ h9 => h9) rfl d_Short_firstPower_27 ?_
        refine lv_iload_n hx hb d_Short_firstPower_30 rfl (lv_at hl 1 rfl) ?_
        refine zv_iadd hx hb d_Short_firstPower_31 ?_
        refine lv_iconst (v := iZ (1)) hx hb d_Short_firstPower_32 rfl ?_
        refine zv_isub hx hb d_Short_firstPower_33 ?_
        exact er_i hx hb hr hlocks d_Short_firstPower_34 (show iZ ((tn + ((k + 1 : Nat) : Int)) - 1) = iZ (tn + ((nfig co : Nat) : Int) - 1) from by rw [nfig_of ht hlt])
      · have hge : 10 ^ (k + 1) ≤ co := by omega
        refine lv_iinc (v := iZ (((k + 1 + 1 : Nat) : Int))) (lv' := [(1, .int (iZ (((k + 1 + 1 : Nat) : Int)))), (0, .ref h0)]) hx hb d_Short_firstPower_20 hl (k := 1) rfl ((iZ_add _ _).trans (congrArg iZ (by omega))) (by decide) rfl (fun ls hl => ?_)
        refine lv_goto (tgt := 2) hx hb d_Short_firstPower_23 (by decide) ?_
        exact ih (k + 1) _ (by omega) (by omega) (hge) (hK.sub [] rfl) (hP.sub [0] rfl) (hD.sub [0] (by decide) rfl) hS (lv_sub hl [1, 0] rfl)
set_option maxHeartbeats 4000000 in
set_option maxRecDepth 100000 in
theorem c_Short_firstPower (l : Launch) (D : va_G) (Z : Nat → Nat) (hz9 : Nat) (h0 : Nat) (qe : Nat) (qx : Nat) (sz : Nat) (sc : Bool) (lo : Nat) (lc : Bool) (hi : Nat) (hc : Bool) (bc : Bool) (co : Nat) (tn : Int) (hco : 0 < co ∧ co < 1000000000000000000) (htn : -100000 < tn ∧ tn < 100000) : Met l y_Short_firstPower (.code y_Short_firstPower b_Short_firstPower 2 (some .int) :: gT) ({ frames := 1, cells := 0, slots := 0, locals := 20 } : Room) (va_Pc [.ref h0] (cpre D Z [(h0, .inr (4, [.ref qe, .ref qx, .long (lN (sz)), .int (bZ (sc = true)), .long (lN (lo)), .int (bZ (lc = true)), .long (lN (hi)), .int (bZ (hc = true)), .int (bZ (bc = true)), .long (lN (co)), .int (iZ (tn))]))] [] hz9)) (Qc_Short_firstPower D h0 qe qx sz sc lo lc hi hc bc co tn (va_A [(h0, .inr (4, [.ref qe, .ref qx, .long (lN (sz)), .int (bZ (sc = true)), .long (lN (lo)), .int (bZ (lc = true)), .long (lN (hi)), .int (bZ (hc = true)), .int (bZ (bc = true)), .long (lN (co)), .int (iZ (tn))]))] hz9)) 0 0 (fun _ => False) := by
  refine met_go (Qf := Qc_Short_firstPower D h0 qe qx sz sc lo lc hi hc bc co tn) (ff := fun _ _ => False) (by decide) ?_
  intro p e s m below meth c A C0 hin hsz9 hA hE hK hP hD
  obtain ⟨hx, hb, hml, hown, hts, hr, hlocks⟩ := id C0
  have hS : va_S A s.heap s.heap [] := va_S.rf
  have hl := lv_entry [.ref h0] (n := 2) (Nat.le_of_ble_eq_true rfl)
  rw [lg_entry_eq]
  generalize (lg_sl [.ref h0] ++ List.replicate (2 - (lg_sl [.ref h0]).length) Slot.unset).toArray = ls at hl ⊢
  have hl : lv_has ls 2 [(0, .ref h0)] := hl
  refine lv_iconst (v := iZ (1)) hx hb d_Short_firstPower_0 rfl ?_
  refine lv_istore_n (lv' := [(1, .int (iZ (1))), (0, .ref h0)]) hx hb d_Short_firstPower_1 rfl hl (by decide) rfl (fun ls hl => ?_)
  exact lp_Short_firstPower_2 h0 qe qx sz sc lo lc hi hc bc co tn hco htn C0 hA hE (17 - 0 + 1) 0 _ (Nat.lt_succ_self _) (by omega) (by omega) (hK.sub [] rfl) (hP.sub [0] rfl) (hD.sub [0] (by decide) rfl) hS (lv_sub hl [1, 0] rfl)
abbrev Qc_Short_figureAt (D : va_G) (h0 : Nat) (qe : Nat) (qx : Nat) (sz : Nat) (sc : Bool) (lo : Nat) (lc : Bool) (hi : Nat) (hc : Bool) (bc : Bool) (co : Nat) (tn : Int) (z : Int) (A : Nat → Prop) : Array Value → State → Outcome → State → Prop := vp_Si (fun r : Int32 => r = iZ (((figAt co (z - tn) : Nat) : Int)))
set_option maxHeartbeats 4000000 in
set_option maxRecDepth 100000 in
theorem c_Short_figureAt (l : Launch) (D : va_G) (Z : Nat → Nat) (hz9 : Nat) (h0 : Nat) (qe : Nat) (qx : Nat) (sz : Nat) (sc : Bool) (lo : Nat) (lc : Bool) (hi : Nat) (hc : Bool) (bc : Bool) (co : Nat) (tn : Int) (z : Int) (hco : co < 1000000000000000000) (htn : -100000 < tn ∧ tn < 100000) (hz : -100000 < z ∧ z < 100000) : Met l y_Short_figureAt (.code y_Short_figureAt b_Short_figureAt 3 (some .int) :: gT) ({ frames := 1, cells := 0, slots := 0, locals := 20 } : Room) (va_Pc [.ref h0, .int (iZ (z))] (cpre D Z [(h0, .inr (4, [.ref qe, .ref qx, .long (lN (sz)), .int (bZ (sc = true)), .long (lN (lo)), .int (bZ (lc = true)), .long (lN (hi)), .int (bZ (hc = true)), .int (bZ (bc = true)), .long (lN (co)), .int (iZ (tn))]))] [] hz9)) (Qc_Short_figureAt D h0 qe qx sz sc lo lc hi hc bc co tn z (va_A [(h0, .inr (4, [.ref qe, .ref qx, .long (lN (sz)), .int (bZ (sc = true)), .long (lN (lo)), .int (bZ (lc = true)), .long (lN (hi)), .int (bZ (hc = true)), .int (bZ (bc = true)), .long (lN (co)), .int (iZ (tn))]))] hz9)) 0 0 (fun _ => False) := by
  refine met_go (Qf := Qc_Short_figureAt D h0 qe qx sz sc lo lc hi hc bc co tn z) (ff := fun _ _ => False) (by decide) ?_
  intro p e s m below meth c A C0 hin hsz9 hA hE hK hP hD
  obtain ⟨hx, hb, hml, hown, hts, hr, hlocks⟩ := id C0
  have hS : va_S A s.heap s.heap [] := va_S.rf
  have hl := lv_entry [.ref h0, .int (iZ (z))] (n := 3) (Nat.le_of_ble_eq_true rfl)
  rw [lg_entry_eq]
  generalize (lg_sl [.ref h0, .int (iZ (z))] ++ List.replicate (3 - (lg_sl [.ref h0, .int (iZ (z))]).length) Slot.unset).toArray = ls at hl ⊢
  have hl : lv_has ls 3 [(0, .ref h0), (1, .int (iZ (z)))] := hl
  refine lv_iload_n hx hb d_Short_figureAt_0 rfl (lv_at hl 1 rfl) ?_
  refine lv_aload_n hx hb d_Short_figureAt_1 rfl (lv_at hl 0 rfl) ?_
  refine va_get (D := D) (ci := 4) (v := .int (iZ (tn))) (C := R_Short) (T := F_Short) (N := 11) hx hb hts i_Short hown hK hP 0 rfl rfl 10 (by decide) (hts _ kw_100_) (fun _ h9 => h9) rfl d_Short_figureAt_2 ?_
  refine zv_isub hx hb d_Short_figureAt_5 ?_
  refine lv_istore_n (lv' := [(2, .int (iZ (z - tn))), (0, .ref h0), (1, .int (iZ (z)))]) hx hb d_Short_figureAt_6 rfl hl (by decide) rfl (fun ls hl => ?_)
  refine lv_iload_n hx hb d_Short_figureAt_7 rfl (lv_at hl 0 rfl) ?_
  refine zv_if_lt (tgt := 17) hx hb d_Short_figureAt_8 (by decide) (by omega) (fun c8 => ?_) (fun c8 => ?_)
  · refine lv_iconst (v := iZ (0)) hx hb d_Short_figureAt_17 rfl ?_
    exact er_i hx hb hr hlocks d_Short_figureAt_18 (show iZ (0) = iZ (((figAt co (z - tn) : Nat) : Int)) from congrArg iZ (by first | (rw [figAt_neg (z := z - tn) (by omega)]; rfl) | (rw [figAt_big (k := 18) (z := z - tn) (by omega) (by omega)]; rfl)))
  · obtain ⟨k, hk⟩ : ∃ k : Nat, z - tn = (k : Int) := ⟨(z - tn).toNat, by omega⟩
    refine lv_iload_n hx hb d_Short_figureAt_11 rfl (lv_at hl 0 rfl) ?_
    refine lv_bipush (v := iZ (18)) hx hb d_Short_figureAt_12 (by decide) ?_
    refine zv_icmp_le (tgt := 19) hx hb d_Short_figureAt_14 (by decide) (by omega) (by omega) (fun c14 => ?_) (fun c14 => ?_)
    · refine lv_aload_n hx hb d_Short_figureAt_19 rfl (lv_at hl 1 rfl) ?_
      refine va_get (D := D) (ci := 4) (v := .long (lN (co))) (C := R_Short) (T := F_Short) (N := 11) hx hb hts i_Short hown hK hP 0 rfl rfl 9 (by decide) (hts _ kw_99_) (fun _ h9 => h9) rfl d_Short_figureAt_20 ?_
      refine lv_iload_n hx hb d_Short_figureAt_23 rfl (lv_at hl 0 rfl) ?_
      refine zv_top (y := iZ (((k : Nat) : Int))) (congrArg iZ hk) ?_
      refine kg_l (kr_SN (host := R_FW) (As := [.int (iZ (((k : Nat) : Int)))]) (rest := [.long (lN (co))]) C0 (c_FW_tenTo l D Z _ k (by omega)) q_y_FW_tenTo (hE.nw 5 rfl) kw_31_ kw_3_ hd_y_FW_tenTo rfl rfl ⟨Nat.le_of_ble_eq_true rfl, Nat.le_of_ble_eq_true rfl⟩ (hP.sub (ws' := []) [] rfl) (hD.sub (ws' := []) [] (by decide) rfl) (hK.sub (tys' := []) [] rfl) hE hS (va_free (wc := []) hD hS hA [] rfl) rfl hl.1 rfl (Nat.le_of_ble_eq_true rfl) d_Short_figureAt_24 ⟨Nat.le_of_ble_eq_true rfl, Nat.le_of_ble_eq_true rfl⟩) (fun r hr1 => ?_)
      obtain rfl : r = lN (10 ^ k) := hr1
      refine nv_ldiv hx hb d_Short_figureAt_27 (by omega) (Nat.pow_pos (by decide)) (ten_63 (by omega)) ?_
      refine lv_ldc2 (v := (10)) hx hb hown (hts _ kw_101_) d_Short_figureAt_28 ?_
      refine nv_top (y := lN 10) (by decide) ?_
      refine nv_lrem hx hb d_Short_figureAt_31 (Nat.lt_of_le_of_lt (Nat.div_le_self _ _) (by omega)) (by decide) (by decide) ?_
      refine nv_l2i hx hb d_Short_figureAt_32 ?_
      exact er_i hx hb hr hlocks d_Short_figureAt_33 (show iZ ((((co / (10 ^ k)) % 10 : Nat) : Int)) = iZ (((figAt co (z - tn) : Nat) : Int)) from congrArg iZ (by rw [hk]; unfold figAt; rw [if_neg (by omega)]; rfl))
    · refine lv_iconst (v := iZ (0)) hx hb d_Short_figureAt_17 rfl ?_
      exact er_i hx hb hr hlocks d_Short_figureAt_18 (show iZ (0) = iZ (((figAt co (z - tn) : Nat) : Int)) from congrArg iZ (by first | (rw [figAt_neg (z := z - tn) (by omega)]; rfl) | (rw [figAt_big (k := 18) (z := z - tn) (by omega) (by omega)]; rfl)))
abbrev Qc_Short_isNearerToOver (D : va_G) (h0 : Nat) (qe : Nat) (qx : Nat) (sz : Nat) (sc : Bool) (lo : Nat) (lc : Bool) (hi : Nat) (hc : Bool) (bc : Bool) (co : Nat) (tn : Int) (un : Nat) (ut : Nat) (A : Nat → Prop) : Array Value → State → Outcome → State → Prop := vp_Si (fun r : Int32 => r = bZ (nrO sz sc un ut = true))
set_option maxHeartbeats 4000000 in
set_option maxRecDepth 100000 in
theorem c_Short_isNearerToOver (l : Launch) (D : va_G) (Z : Nat → Nat) (hz9 : Nat) (h0 : Nat) (qe : Nat) (qx : Nat) (sz : Nat) (sc : Bool) (lo : Nat) (lc : Bool) (hi : Nat) (hc : Bool) (bc : Bool) (co : Nat) (tn : Int) (un : Nat) (ut : Nat) (hsz : sz < 1000000000000000000) (hun : un < 1000000000000000000) (hut : 0 < ut ∧ ut ≤ 10000000000000000) : Met l y_Short_isNearerToOver (.code y_Short_isNearerToOver b_Short_isNearerToOver 7 (some .boolean) :: gT) ({ frames := 0, cells := 0, slots := 0, locals := 0 } : Room) (va_Pc [.ref h0, .long (lN (un)), .long (lN (ut))] (cpre D Z [(h0, .inr (4, [.ref qe, .ref qx, .long (lN (sz)), .int (bZ (sc = true)), .long (lN (lo)), .int (bZ (lc = true)), .long (lN (hi)), .int (bZ (hc = true)), .int (bZ (bc = true)), .long (lN (co)), .int (iZ (tn))]))] [] hz9)) (Qc_Short_isNearerToOver D h0 qe qx sz sc lo lc hi hc bc co tn un ut (va_A [(h0, .inr (4, [.ref qe, .ref qx, .long (lN (sz)), .int (bZ (sc = true)), .long (lN (lo)), .int (bZ (lc = true)), .long (lN (hi)), .int (bZ (hc = true)), .int (bZ (bc = true)), .long (lN (co)), .int (iZ (tn))]))] hz9)) 0 0 (fun _ => False) := by
  refine met_go (Qf := Qc_Short_isNearerToOver D h0 qe qx sz sc lo lc hi hc bc co tn un ut) (ff := fun _ _ => False) (by decide) ?_
  intro p e s m below meth c A C0 hin hsz9 hA hE hK hP hD
  obtain ⟨hx, hb, hml, hown, hts, hr, hlocks⟩ := id C0
  have hS : va_S A s.heap s.heap [] := va_S.rf
  have hl := lv_entry [.ref h0, .long (lN (un)), .long (lN (ut))] (n := 7) (Nat.le_of_ble_eq_true rfl)
  rw [lg_entry_eq]
  generalize (lg_sl [.ref h0, .long (lN (un)), .long (lN (ut))] ++ List.replicate (7 - (lg_sl [.ref h0, .long (lN (un)), .long (lN (ut))]).length) Slot.unset).toArray = ls at hl ⊢
  have hl : lv_has ls 7 [(0, .ref h0), (1, .long (lN (un))), (3, .long (lN (ut)))] := hl
  refine lv_lload_n hx hb d_Short_isNearerToOver_0 rfl (lv_at hl 1 rfl) ?_
  refine lv_lload_n hx hb d_Short_isNearerToOver_1 rfl (lv_at hl 2 rfl) ?_
  refine lv_ldc2 (v := (2)) hx hb hown (hts _ kw_102_) d_Short_isNearerToOver_2 ?_
  refine nv_top (y := lN 2) (by decide) ?_
  refine nv_ldiv hx hb d_Short_isNearerToOver_5 (by omega) (by decide) (by decide) ?_
  refine nv_ladd hx hb d_Short_isNearerToOver_6 ?_
  refine lv_lstore (lv' := [(5, .long (lN (un + (ut / 2)))), (0, .ref h0), (1, .long (lN (un))), (3, .long (lN (ut)))]) hx hb d_Short_isNearerToOver_7 hl (by decide) rfl (fun ls hl => ?_)
  refine lv_aload_n hx hb d_Short_isNearerToOver_9 rfl (lv_at hl 1 rfl) ?_
  refine va_get (D := D) (ci := 4) (v := .long (lN (sz))) (C := R_Short) (T := F_Short) (N := 11) hx hb hts i_Short hown hK hP 0 rfl rfl 2 (by decide) (hts _ kw_103_) (fun _ h9 => h9) rfl d_Short_isNearerToOver_10 ?_
  refine lv_lload hx hb d_Short_isNearerToOver_13 (lv_at hl 0 rfl) ?_
  refine nv_lcmp_ne (tgt := 26) hx hb d_Short_isNearerToOver_15 d_Short_isNearerToOver_16 (by decide) (by omega) (by omega) (fun c15 => ?_) (fun c15 => ?_)
  · have q1 : ¬ (sz = un + ut / 2 ∧ sc = false) := fun q => c15 q.1
    refine lv_aload_n hx hb d_Short_isNearerToOver_26 rfl (lv_at hl 1 rfl) ?_
    refine va_get (D := D) (ci := 4) (v := .long (lN (sz))) (C := R_Short) (T := F_Short) (N := 11) hx hb hts i_Short hown hK hP 0 rfl rfl 2 (by decide) (hts _ kw_103_) (fun _ h9 => h9) rfl d_Short_isNearerToOver_27 ?_
    refine lv_lload hx hb d_Short_isNearerToOver_30 (lv_at hl 0 rfl) ?_
    refine nv_lcmp_lt (tgt := 40) hx hb d_Short_isNearerToOver_32 d_Short_isNearerToOver_33 (by decide) (by omega) (by omega) (fun c32 => ?_) (fun c32 => ?_)
    · refine lv_iconst (v := iZ (0)) hx hb d_Short_isNearerToOver_40 rfl ?_
      exact er_z hx hb hr hlocks (by decide) d_Short_isNearerToOver_41 (show iZ (0) = bZ (nrO sz sc un ut = true) from by first | exact (bZ_t (by simp [nrO, q1]; omega)).symm | exact (bZ_f (by simp [nrO, q1]; omega)).symm)
    · refine lv_iconst (v := iZ (1)) hx hb d_Short_isNearerToOver_36 rfl ?_
      refine lv_goto (tgt := 41) hx hb d_Short_isNearerToOver_37 (by decide) ?_
      exact er_z hx hb hr hlocks (by decide) d_Short_isNearerToOver_41 (show iZ (1) = bZ (nrO sz sc un ut = true) from by first | exact (bZ_t (by simp [nrO, q1]; omega)).symm | exact (bZ_f (by simp [nrO, q1]; omega)).symm)
  · refine lv_aload_n hx hb d_Short_isNearerToOver_19 rfl (lv_at hl 1 rfl) ?_
    refine va_get (D := D) (ci := 4) (v := .int (bZ (sc = true))) (C := R_Short) (T := F_Short) (N := 11) hx hb hts i_Short hown hK hP 0 rfl rfl 3 (by decide) (hts _ kw_104_) (fun _ h9 => h9) rfl d_Short_isNearerToOver_20 ?_
    refine bv_if_eq (tgt := 42) hx hb d_Short_isNearerToOver_23 (by decide) (fun c23 => ?_) (fun c23 => ?_)
    · have q1 : sz = un + ut / 2 ∧ sc = false := ⟨c15, by cases sc <;> simp at c23 ⊢⟩
      refine lv_lload_n hx hb d_Short_isNearerToOver_42 rfl (lv_at hl 2 rfl) ?_
      refine lv_lload_n hx hb d_Short_isNearerToOver_43 rfl (lv_at hl 3 rfl) ?_
      refine nv_ldiv hx hb d_Short_isNearerToOver_44 (by omega) (by omega) (by omega) ?_
      refine lv_ldc2 (v := (2)) hx hb hown (hts _ kw_102_) d_Short_isNearerToOver_45 ?_
      refine nv_top (y := lN 2) (by decide) ?_
      refine nv_lrem hx hb d_Short_isNearerToOver_48 (Nat.lt_of_le_of_lt (Nat.div_le_self _ _) (by omega)) (by decide) (by decide) ?_
      refine lv_lconst (v := lN 1) hx hb d_Short_isNearerToOver_49 rfl ?_
      refine nv_lcmp_ne (tgt := 58) hx hb d_Short_isNearerToOver_50 d_Short_isNearerToOver_51 (by decide) (by omega) (by decide) (fun c50 => ?_) (fun c50 => ?_)
      · refine lv_iconst (v := iZ (0)) hx hb d_Short_isNearerToOver_58 rfl ?_
        exact er_z hx hb hr hlocks (by decide) d_Short_isNearerToOver_59 (show iZ (0) = bZ (nrO sz sc un ut = true) from by unfold nrO; rw [if_pos q1]; first | exact (bZ_t (decide_eq_true (by omega))).symm | exact (bZ_f (by rw [decide_eq_true_eq]; omega)).symm)
      · refine lv_iconst (v := iZ (1)) hx hb d_Short_isNearerToOver_54 rfl ?_
        refine lv_goto (tgt := 59) hx hb d_Short_isNearerToOver_55 (by decide) ?_
        exact er_z hx hb hr hlocks (by decide) d_Short_isNearerToOver_59 (show iZ (1) = bZ (nrO sz sc un ut = true) from by unfold nrO; rw [if_pos q1]; first | exact (bZ_t (decide_eq_true (by omega))).symm | exact (bZ_f (by rw [decide_eq_true_eq]; omega)).symm)
    · have q1 : ¬ (sz = un + ut / 2 ∧ sc = false) := fun q => by rw [q.2] at c23; exact absurd c23 (by decide)
      refine lv_aload_n hx hb d_Short_isNearerToOver_26 rfl (lv_at hl 1 rfl) ?_
      refine va_get (D := D) (ci := 4) (v := .long (lN (sz))) (C := R_Short) (T := F_Short) (N := 11) hx hb hts i_Short hown hK hP 0 rfl rfl 2 (by decide) (hts _ kw_103_) (fun _ h9 => h9) rfl d_Short_isNearerToOver_27 ?_
      refine lv_lload hx hb d_Short_isNearerToOver_30 (lv_at hl 0 rfl) ?_
      refine nv_lcmp_lt (tgt := 40) hx hb d_Short_isNearerToOver_32 d_Short_isNearerToOver_33 (by decide) (by omega) (by omega) (fun c32 => ?_) (fun c32 => ?_)
      · refine lv_iconst (v := iZ (0)) hx hb d_Short_isNearerToOver_40 rfl ?_
        exact er_z hx hb hr hlocks (by decide) d_Short_isNearerToOver_41 (show iZ (0) = bZ (nrO sz sc un ut = true) from by first | exact (bZ_t (by simp [nrO, q1]; omega)).symm | exact (bZ_f (by simp [nrO, q1]; omega)).symm)
      · refine lv_iconst (v := iZ (1)) hx hb d_Short_isNearerToOver_36 rfl ?_
        refine lv_goto (tgt := 41) hx hb d_Short_isNearerToOver_37 (by decide) ?_
        exact er_z hx hb hr hlocks (by decide) d_Short_isNearerToOver_41 (show iZ (1) = bZ (nrO sz sc un ut = true) from by first | exact (bZ_t (by simp [nrO, q1]; omega)).symm | exact (bZ_f (by simp [nrO, q1]; omega)).symm)
abbrev Qc_Short_nearestOfUnit (D : va_G) (h0 : Nat) (qe : Nat) (qx : Nat) (sz : Nat) (sc : Bool) (lo : Nat) (lc : Bool) (hi : Nat) (hc : Bool) (bc : Bool) (co : Nat) (tn : Int) (ut : Nat) (A : Nat → Prop) : Array Value → State → Outcome → State → Prop := vp_Sl (fun r : Int64 => r = lN (nOU sz sc lo lc hi hc bc ut))
set_option maxHeartbeats 4000000 in
set_option maxRecDepth 100000 in
theorem lp_Short_nearestOfUnit_95 {p : Program} {l : Launch} {e : Env} {s : State} {m : MethodId} {args : Array Value} {below : List Frame} {meth : Method} {c : Code} {A : Nat → Prop} {D : va_G} {Z : Nat → Nat} (h0 : Nat) (qe : Nat) (qx : Nat) (sz : Nat) (sc : Bool) (lo : Nat) (lc : Bool) (hi : Nat) (hc : Bool) (bc : Bool) (co : Nat) (tn : Int) (ut : Nat) (hsz : sz < 1000000000000000000) (hlo : lo < 9223372036854775808) (hhi : hi < 9223372036854775808) (hut : 0 < ut ∧ ut ≤ 10000000000000000) (C0 : cxA p s m args meth c b_Short_nearestOfUnit 9 R_Short (some .long)) (hA : ∀ q : Nat, s.heap.size ≤ q → A q) (hE : Ev Z A s s.heap) : ∀ (N : Nat)  (ls : Array Slot), 0 < N → va_K D classes [] s → va_P D classes [(h0, .inr (4, [.ref qe, .ref qx, .long (lN (sz)), .int (bZ (sc = true)), .long (lN (lo)), .int (bZ (lc = true)), .long (lN (hi)), .int (bZ (hc = true)), .int (bZ (bc = true)), .long (lN (co)), .int (iZ (tn))]))] s.heap → va_D A [(h0, .inr (4, [.ref qe, .ref qx, .long (lN (sz)), .int (bZ (sc = true)), .long (lN (lo)), .int (bZ (lc = true)), .long (lN (hi)), .int (bZ (hc = true)), .int (bZ (bc = true)), .long (lN (co)), .int (iZ (tn))]))] → va_S A s.heap s.heap [] → lv_has ls 9 [(0, .ref h0), (1, .long (lN (ut))), (3, .long (lN (sz - sz % ut))), (5, .long (lN (sz - sz % ut + ut))), (7, .int (bZ (uF sz lo lc bc ut = true)))] → W p l e ({ frames := 1, cells := 0, slots := 0, locals := 26 } : Room) s m args below meth c s.heap [] 0 0 (MQ below (Qc_Short_nearestOfUnit D h0 qe qx sz sc lo lc hi hc bc co tn ut A) args s 0 0 (fun _ => False)) (F0 m 95 ls [.int (bZ (oF sz hi hc bc ut = true))]) := by
  obtain ⟨hx, hb, hml, hown, hts, hr, hlocks⟩ := id C0
  intro N
  induction N with
  | zero => intro  ls hN; exact absurd hN (Nat.not_lt_zero _)
  | succ N ih =>
    intro  ls hN  hK hP hD hS hl
    refine lv_istore (lv' := [(8, .int (bZ (oF sz hi hc bc ut = true))), (0, .ref h0), (1, .long (lN (ut))), (3, .long (lN (sz - sz % ut))), (5, .long (lN (sz - sz % ut + ut))), (7, .int (bZ (uF sz lo lc bc ut = true)))]) hx hb d_Short_nearestOfUnit_95 hl (by decide) rfl (fun ls hl => ?_)
    refine lv_iload hx hb d_Short_nearestOfUnit_97 (lv_at hl 5 rfl) ?_
    refine bv_if_eq (tgt := 123) hx hb d_Short_nearestOfUnit_99 (by decide) (fun c99 => ?_) (fun c99 => ?_)
    · refine lv_iload hx hb d_Short_nearestOfUnit_123 (lv_at hl 5 rfl) ?_
      refine bv_if_eq (tgt := 130) hx hb d_Short_nearestOfUnit_125 (by decide) (fun c125 => ?_) (fun c125 => ?_)
      · refine lv_iload hx hb d_Short_nearestOfUnit_130 (lv_at hl 0 rfl) ?_
        refine bv_if_eq (tgt := 140) hx hb d_Short_nearestOfUnit_132 (by decide) (fun c132 => ?_) (fun c132 => ?_)
        · refine lv_ldc2 (v := (-1)) hx hb hown (hts _ kw_105_) d_Short_nearestOfUnit_140 ?_
          refine nv_top (y := lN 18446744073709551615) (by decide) ?_
          exact er_l hx hb hr hlocks d_Short_nearestOfUnit_143 (show lN (18446744073709551615) = lN (nOU sz sc lo lc hi hc bc ut) from by unfold nOU; simp_all [nNo])
        · refine lv_lload hx hb d_Short_nearestOfUnit_135 (lv_at hl 4 rfl) ?_
          refine lv_goto (tgt := 143) hx hb d_Short_nearestOfUnit_137 (by decide) ?_
          exact er_l hx hb hr hlocks d_Short_nearestOfUnit_143 (show lN (sz - sz % ut + ut) = lN (nOU sz sc lo lc hi hc bc ut) from by unfold nOU; simp_all [nNo])
      · refine lv_lload_n hx hb d_Short_nearestOfUnit_128 rfl (lv_at hl 3 rfl) ?_
        exact er_l hx hb hr hlocks d_Short_nearestOfUnit_129 (show lN (sz - sz % ut) = lN (nOU sz sc lo lc hi hc bc ut) from by unfold nOU; simp_all)
    · refine lv_iload hx hb d_Short_nearestOfUnit_102 (lv_at hl 0 rfl) ?_
      refine bv_if_eq (tgt := 123) hx hb d_Short_nearestOfUnit_104 (by decide) (fun c104 => ?_) (fun c104 => ?_)
      · refine lv_iload hx hb d_Short_nearestOfUnit_123 (lv_at hl 5 rfl) ?_
        refine bv_if_eq (tgt := 130) hx hb d_Short_nearestOfUnit_125 (by decide) (fun c125 => ?_) (fun c125 => ?_)
        · refine lv_iload hx hb d_Short_nearestOfUnit_130 (lv_at hl 0 rfl) ?_
          refine bv_if_eq (tgt := 140) hx hb d_Short_nearestOfUnit_132 (by decide) (fun c132 => ?_) (fun c132 => ?_)
          · refine lv_ldc2 (v := (-1)) hx hb hown (hts _ kw_105_) d_Short_nearestOfUnit_140 ?_
            refine nv_top (y := lN 18446744073709551615) (by decide) ?_
            exact er_l hx hb hr hlocks d_Short_nearestOfUnit_143 (show lN (18446744073709551615) = lN (nOU sz sc lo lc hi hc bc ut) from by unfold nOU; simp_all [nNo])
          · refine lv_lload hx hb d_Short_nearestOfUnit_135 (lv_at hl 4 rfl) ?_
            refine lv_goto (tgt := 143) hx hb d_Short_nearestOfUnit_137 (by decide) ?_
            exact er_l hx hb hr hlocks d_Short_nearestOfUnit_143 (show lN (sz - sz % ut + ut) = lN (nOU sz sc lo lc hi hc bc ut) from by unfold nOU; simp_all [nNo])
        · refine lv_lload_n hx hb d_Short_nearestOfUnit_128 rfl (lv_at hl 3 rfl) ?_
          exact er_l hx hb hr hlocks d_Short_nearestOfUnit_129 (show lN (sz - sz % ut) = lN (nOU sz sc lo lc hi hc bc ut) from by unfold nOU; simp_all)
      · refine lv_aload_n hx hb d_Short_nearestOfUnit_107 rfl (lv_at hl 1 rfl) ?_
        refine lv_lload_n hx hb d_Short_nearestOfUnit_108 rfl (lv_at hl 3 rfl) ?_
        refine lv_lload_n hx hb d_Short_nearestOfUnit_109 rfl (lv_at hl 2 rfl) ?_
        refine kg_i (kr_V (C0 := R_Short) (ci := 4) (i0 := 0) (As := [.long (lN (sz - sz % ut)), .long (lN (ut))]) (rest := []) C0 (c_Short_isNearerToOver l D Z _ h0 qe qx sz sc lo lc hi hc bc co tn (sz - sz % ut) ut (by assumption) (by omega) (by assumption)) q_y_Short_isNearerToOver kw_107_ kw_108_ kw_109_ kw_106_ hd_y_Short_isNearerToOver rfl rfl ⟨Nat.le_of_ble_eq_true rfl, Nat.le_of_ble_eq_true rfl⟩ (hP.sub (ws' := [(h0, .inr (4, [.ref qe, .ref qx, .long (lN (sz)), .int (bZ (sc = true)), .long (lN (lo)), .int (bZ (lc = true)), .long (lN (hi)), .int (bZ (hc = true)), .int (bZ (bc = true)), .long (lN (co)), .int (iZ (tn))]))]) [0] rfl) (hD.sub (ws' := [(h0, .inr (4, [.ref qe, .ref qx, .long (lN (sz)), .int (bZ (sc = true)), .long (lN (lo)), .int (bZ (lc = true)), .long (lN (hi)), .int (bZ (hc = true)), .int (bZ (bc = true)), .long (lN (co)), .int (iZ (tn))]))]) [0] (by decide) rfl) (hK.sub (tys' := []) [] rfl) hE hS (va_free (wc := [(h0, .inr (4, [.ref qe, .ref qx, .long (lN (sz)), .int (bZ (sc = true)), .long (lN (lo)), .int (bZ (lc = true)), .long (lN (hi)), .int (bZ (hc = true)), .int (bZ (bc = true)), .long (lN (co)), .int (iZ (tn))]))]) hD hS hA [0] rfl) rfl rfl rfl hl.1 rfl (Nat.le_of_ble_eq_true rfl) d_Short_nearestOfUnit_110 ⟨Nat.le_of_ble_eq_true rfl, Nat.le_of_ble_eq_true rfl⟩) (fun r hr1 => ?_)
        obtain rfl : r = bZ (nrO sz sc (sz - sz % ut) ut = true) := hr1
        refine bv_if_eq (tgt := 121) hx hb d_Short_nearestOfUnit_113 (by decide) (fun c113 => ?_) (fun c113 => ?_)
        · refine lv_lload_n hx hb d_Short_nearestOfUnit_121 rfl (lv_at hl 3 rfl) ?_
          exact er_l hx hb hr hlocks d_Short_nearestOfUnit_122 (show lN (sz - sz % ut) = lN (nOU sz sc lo lc hi hc bc ut) from by unfold nOU; simp_all)
        · refine lv_lload hx hb d_Short_nearestOfUnit_116 (lv_at hl 4 rfl) ?_
          refine lv_goto (tgt := 122) hx hb d_Short_nearestOfUnit_118 (by decide) ?_
          exact er_l hx hb hr hlocks d_Short_nearestOfUnit_122 (show lN (sz - sz % ut + ut) = lN (nOU sz sc lo lc hi hc bc ut) from by unfold nOU; simp_all)
set_option maxHeartbeats 4000000 in
set_option maxRecDepth 100000 in
theorem lp_Short_nearestOfUnit_54 {p : Program} {l : Launch} {e : Env} {s : State} {m : MethodId} {args : Array Value} {below : List Frame} {meth : Method} {c : Code} {A : Nat → Prop} {D : va_G} {Z : Nat → Nat} (h0 : Nat) (qe : Nat) (qx : Nat) (sz : Nat) (sc : Bool) (lo : Nat) (lc : Bool) (hi : Nat) (hc : Bool) (bc : Bool) (co : Nat) (tn : Int) (ut : Nat) (hsz : sz < 1000000000000000000) (hlo : lo < 9223372036854775808) (hhi : hi < 9223372036854775808) (hut : 0 < ut ∧ ut ≤ 10000000000000000) (C0 : cxA p s m args meth c b_Short_nearestOfUnit 9 R_Short (some .long)) (hA : ∀ q : Nat, s.heap.size ≤ q → A q) (hE : Ev Z A s s.heap) : ∀ (N : Nat)  (ls : Array Slot), 0 < N → va_K D classes [] s → va_P D classes [(h0, .inr (4, [.ref qe, .ref qx, .long (lN (sz)), .int (bZ (sc = true)), .long (lN (lo)), .int (bZ (lc = true)), .long (lN (hi)), .int (bZ (hc = true)), .int (bZ (bc = true)), .long (lN (co)), .int (iZ (tn))]))] s.heap → va_D A [(h0, .inr (4, [.ref qe, .ref qx, .long (lN (sz)), .int (bZ (sc = true)), .long (lN (lo)), .int (bZ (lc = true)), .long (lN (hi)), .int (bZ (hc = true)), .int (bZ (bc = true)), .long (lN (co)), .int (iZ (tn))]))] → va_S A s.heap s.heap [] → lv_has ls 9 [(0, .ref h0), (1, .long (lN (ut))), (3, .long (lN (sz - sz % ut))), (5, .long (lN (sz - sz % ut + ut)))] → W p l e ({ frames := 1, cells := 0, slots := 0, locals := 26 } : Room) s m args below meth c s.heap [] 0 0 (MQ below (Qc_Short_nearestOfUnit D h0 qe qx sz sc lo lc hi hc bc co tn ut A) args s 0 0 (fun _ => False)) (F0 m 54 ls [.int (bZ (uF sz lo lc bc ut = true))]) := by
  obtain ⟨hx, hb, hml, hown, hts, hr, hlocks⟩ := id C0
  intro N
  induction N with
  | zero => intro  ls hN; exact absurd hN (Nat.not_lt_zero _)
  | succ N ih =>
    intro  ls hN  hK hP hD hS hl
    refine lv_istore (lv' := [(7, .int (bZ (uF sz lo lc bc ut = true))), (0, .ref h0), (1, .long (lN (ut))), (3, .long (lN (sz - sz % ut))), (5, .long (lN (sz - sz % ut + ut)))]) hx hb d_Short_nearestOfUnit_54 hl (by decide) rfl (fun ls hl => ?_)
    refine lv_lload hx hb d_Short_nearestOfUnit_56 (lv_at hl 4 rfl) ?_
    refine lv_aload_n hx hb d_Short_nearestOfUnit_58 rfl (lv_at hl 1 rfl) ?_
    refine va_get (D := D) (ci := 4) (v := .long (lN (hi))) (C := R_Short) (T := F_Short) (N := 11) hx hb hts i_Short hown hK hP 0 rfl rfl 6 (by decide) (hts _ kw_110_) (fun _ h9 => h9) rfl d_Short_nearestOfUnit_59 ?_
    refine nv_lcmp_lt (tgt := 90) hx hb d_Short_nearestOfUnit_62 d_Short_nearestOfUnit_63 (by decide) (by omega) (by omega) (fun c62 => ?_) (fun c62 => ?_)
    · refine lv_iconst (v := iZ (1)) hx hb d_Short_nearestOfUnit_90 rfl ?_
      refine zv_top (y := bZ (oF sz hi hc bc ut = true)) ((bZ_t (by unfold oF; simp_all)).symm) ?_
      refine lv_goto (tgt := 95) hx hb d_Short_nearestOfUnit_91 (by decide) ?_
      exact lp_Short_nearestOfUnit_95 h0 qe qx sz sc lo lc hi hc bc co tn ut hsz hlo hhi hut C0 hA hE (0 + 1)  _ (Nat.lt_succ_self _)  (hK.sub [] rfl) (hP.sub [0] rfl) (hD.sub [0] (by decide) rfl) hS (lv_sub hl [1, 2, 3, 4, 0] rfl)
    · refine lv_lload hx hb d_Short_nearestOfUnit_66 (lv_at hl 4 rfl) ?_
      refine lv_aload_n hx hb d_Short_nearestOfUnit_68 rfl (lv_at hl 1 rfl) ?_
      refine va_get (D := D) (ci := 4) (v := .long (lN (hi))) (C := R_Short) (T := F_Short) (N := 11) hx hb hts i_Short hown hK hP 0 rfl rfl 6 (by decide) (hts _ kw_110_) (fun _ h9 => h9) rfl d_Short_nearestOfUnit_69 ?_
      refine nv_lcmp_ne (tgt := 94) hx hb d_Short_nearestOfUnit_72 d_Short_nearestOfUnit_73 (by decide) (by omega) (by omega) (fun c72 => ?_) (fun c72 => ?_)
      · refine lv_iconst (v := iZ (0)) hx hb d_Short_nearestOfUnit_94 rfl ?_
        refine zv_top (y := bZ (oF sz hi hc bc ut = true)) ((bZ_f (by unfold oF; simp_all)).symm) ?_
        exact lp_Short_nearestOfUnit_95 h0 qe qx sz sc lo lc hi hc bc co tn ut hsz hlo hhi hut C0 hA hE (0 + 1)  _ (Nat.lt_succ_self _)  (hK.sub [] rfl) (hP.sub [0] rfl) (hD.sub [0] (by decide) rfl) hS (lv_sub hl [1, 2, 3, 4, 0] rfl)
      · refine lv_aload_n hx hb d_Short_nearestOfUnit_76 rfl (lv_at hl 1 rfl) ?_
        refine va_get (D := D) (ci := 4) (v := .int (bZ (hc = true))) (C := R_Short) (T := F_Short) (N := 11) hx hb hts i_Short hown hK hP 0 rfl rfl 7 (by decide) (hts _ kw_111_) (fun _ h9 => h9) rfl d_Short_nearestOfUnit_77 ?_
        refine bv_if_ne (tgt := 90) hx hb d_Short_nearestOfUnit_80 (by decide) (fun c80 => ?_) (fun c80 => ?_)
        · refine lv_iconst (v := iZ (1)) hx hb d_Short_nearestOfUnit_90 rfl ?_
          refine zv_top (y := bZ (oF sz hi hc bc ut = true)) ((bZ_t (by unfold oF; simp_all)).symm) ?_
          refine lv_goto (tgt := 95) hx hb d_Short_nearestOfUnit_91 (by decide) ?_
          exact lp_Short_nearestOfUnit_95 h0 qe qx sz sc lo lc hi hc bc co tn ut hsz hlo hhi hut C0 hA hE (0 + 1)  _ (Nat.lt_succ_self _)  (hK.sub [] rfl) (hP.sub [0] rfl) (hD.sub [0] (by decide) rfl) hS (lv_sub hl [1, 2, 3, 4, 0] rfl)
        · refine lv_aload_n hx hb d_Short_nearestOfUnit_83 rfl (lv_at hl 1 rfl) ?_
          refine va_get (D := D) (ci := 4) (v := .int (bZ (bc = true))) (C := R_Short) (T := F_Short) (N := 11) hx hb hts i_Short hown hK hP 0 rfl rfl 8 (by decide) (hts _ kw_112_) (fun _ h9 => h9) rfl d_Short_nearestOfUnit_84 ?_
          refine bv_if_eq (tgt := 94) hx hb d_Short_nearestOfUnit_87 (by decide) (fun c87 => ?_) (fun c87 => ?_)
          · refine lv_iconst (v := iZ (0)) hx hb d_Short_nearestOfUnit_94 rfl ?_
            refine zv_top (y := bZ (oF sz hi hc bc ut = true)) ((bZ_f (by unfold oF; simp_all)).symm) ?_
            exact lp_Short_nearestOfUnit_95 h0 qe qx sz sc lo lc hi hc bc co tn ut hsz hlo hhi hut C0 hA hE (0 + 1)  _ (Nat.lt_succ_self _)  (hK.sub [] rfl) (hP.sub [0] rfl) (hD.sub [0] (by decide) rfl) hS (lv_sub hl [1, 2, 3, 4, 0] rfl)
          · refine lv_iconst (v := iZ (1)) hx hb d_Short_nearestOfUnit_90 rfl ?_
            refine zv_top (y := bZ (oF sz hi hc bc ut = true)) ((bZ_t (by unfold oF; simp_all)).symm) ?_
            refine lv_goto (tgt := 95) hx hb d_Short_nearestOfUnit_91 (by decide) ?_
            exact lp_Short_nearestOfUnit_95 h0 qe qx sz sc lo lc hi hc bc co tn ut hsz hlo hhi hut C0 hA hE (0 + 1)  _ (Nat.lt_succ_self _)  (hK.sub [] rfl) (hP.sub [0] rfl) (hD.sub [0] (by decide) rfl) hS (lv_sub hl [1, 2, 3, 4, 0] rfl)
set_option maxHeartbeats 4000000 in
set_option maxRecDepth 100000 in
theorem c_Short_nearestOfUnit (l : Launch) (D : va_G) (Z : Nat → Nat) (hz9 : Nat) (h0 : Nat) (qe : Nat) (qx : Nat) (sz : Nat) (sc : Bool) (lo : Nat) (lc : Bool) (hi : Nat) (hc : Bool) (bc : Bool) (co : Nat) (tn : Int) (ut : Nat) (hsz : sz < 1000000000000000000) (hlo : lo < 9223372036854775808) (hhi : hi < 9223372036854775808) (hut : 0 < ut ∧ ut ≤ 10000000000000000) : Met l y_Short_nearestOfUnit (.code y_Short_nearestOfUnit b_Short_nearestOfUnit 9 (some .long) :: gT) ({ frames := 1, cells := 0, slots := 0, locals := 26 } : Room) (va_Pc [.ref h0, .long (lN (ut))] (cpre D Z [(h0, .inr (4, [.ref qe, .ref qx, .long (lN (sz)), .int (bZ (sc = true)), .long (lN (lo)), .int (bZ (lc = true)), .long (lN (hi)), .int (bZ (hc = true)), .int (bZ (bc = true)), .long (lN (co)), .int (iZ (tn))]))] [] hz9)) (Qc_Short_nearestOfUnit D h0 qe qx sz sc lo lc hi hc bc co tn ut (va_A [(h0, .inr (4, [.ref qe, .ref qx, .long (lN (sz)), .int (bZ (sc = true)), .long (lN (lo)), .int (bZ (lc = true)), .long (lN (hi)), .int (bZ (hc = true)), .int (bZ (bc = true)), .long (lN (co)), .int (iZ (tn))]))] hz9)) 0 0 (fun _ => False) := by
  refine met_go (Qf := Qc_Short_nearestOfUnit D h0 qe qx sz sc lo lc hi hc bc co tn ut) (ff := fun _ _ => False) (by decide) ?_
  intro p e s m below meth c A C0 hin hsz9 hA hE hK hP hD
  obtain ⟨hx, hb, hml, hown, hts, hr, hlocks⟩ := id C0
  have hS : va_S A s.heap s.heap [] := va_S.rf
  have hl := lv_entry [.ref h0, .long (lN (ut))] (n := 9) (Nat.le_of_ble_eq_true rfl)
  rw [lg_entry_eq]
  generalize (lg_sl [.ref h0, .long (lN (ut))] ++ List.replicate (9 - (lg_sl [.ref h0, .long (lN (ut))]).length) Slot.unset).toArray = ls at hl ⊢
  have hl : lv_has ls 9 [(0, .ref h0), (1, .long (lN (ut)))] := hl
  have hle := Nat.mod_le sz ut
  refine lv_aload_n hx hb d_Short_nearestOfUnit_0 rfl (lv_at hl 0 rfl) ?_
  refine va_get (D := D) (ci := 4) (v := .long (lN (sz))) (C := R_Short) (T := F_Short) (N := 11) hx hb hts i_Short hown hK hP 0 rfl rfl 2 (by decide) (hts _ kw_103_) (fun _ h9 => h9) rfl d_Short_nearestOfUnit_1 ?_
  refine lv_aload_n hx hb d_Short_nearestOfUnit_4 rfl (lv_at hl 0 rfl) ?_
  refine va_get (D := D) (ci := 4) (v := .long (lN (sz))) (C := R_Short) (T := F_Short) (N := 11) hx hb hts i_Short hown hK hP 0 rfl rfl 2 (by decide) (hts _ kw_103_) (fun _ h9 => h9) rfl d_Short_nearestOfUnit_5 ?_
  refine lv_lload_n hx hb d_Short_nearestOfUnit_8 rfl (lv_at hl 1 rfl) ?_
  refine nv_lrem hx hb d_Short_nearestOfUnit_9 (by omega) (by omega) (by omega) ?_
  refine nv_lsub hx hb d_Short_nearestOfUnit_10 (Nat.mod_le _ _) ?_
  refine lv_lstore_n (lv' := [(3, .long (lN (sz - (sz % ut)))), (0, .ref h0), (1, .long (lN (ut)))]) hx hb d_Short_nearestOfUnit_11 rfl hl (by decide) rfl (fun ls hl => ?_)
  refine lv_lload_n hx hb d_Short_nearestOfUnit_12 rfl (lv_at hl 0 rfl) ?_
  refine lv_lload_n hx hb d_Short_nearestOfUnit_13 rfl (lv_at hl 2 rfl) ?_
  refine nv_ladd hx hb d_Short_nearestOfUnit_14 ?_
  refine lv_lstore (lv' := [(5, .long (lN ((sz - (sz % ut)) + ut))), (3, .long (lN (sz - (sz % ut)))), (0, .ref h0), (1, .long (lN (ut)))]) hx hb d_Short_nearestOfUnit_15 hl (by decide) rfl (fun ls hl => ?_)
  refine lv_lload_n hx hb d_Short_nearestOfUnit_17 rfl (lv_at hl 1 rfl) ?_
  refine lv_aload_n hx hb d_Short_nearestOfUnit_18 rfl (lv_at hl 2 rfl) ?_
  refine va_get (D := D) (ci := 4) (v := .long (lN (lo))) (C := R_Short) (T := F_Short) (N := 11) hx hb hts i_Short hown hK hP 0 rfl rfl 4 (by decide) (hts _ kw_113_) (fun _ h9 => h9) rfl d_Short_nearestOfUnit_19 ?_
  refine nv_lcmp_gt (tgt := 49) hx hb d_Short_nearestOfUnit_22 d_Short_nearestOfUnit_23 (by decide) (by omega) (by omega) (fun c22 => ?_) (fun c22 => ?_)
  · refine lv_iconst (v := iZ (1)) hx hb d_Short_nearestOfUnit_49 rfl ?_
    refine zv_top (y := bZ (uF sz lo lc bc ut = true)) ((bZ_t (by unfold uF; simp_all)).symm) ?_
    refine lv_goto (tgt := 54) hx hb d_Short_nearestOfUnit_50 (by decide) ?_
    exact lp_Short_nearestOfUnit_54 h0 qe qx sz sc lo lc hi hc bc co tn ut hsz hlo hhi hut C0 hA hE (0 + 1)  _ (Nat.lt_succ_self _)  (hK.sub [] rfl) (hP.sub [0] rfl) (hD.sub [0] (by decide) rfl) hS (lv_sub hl [2, 3, 1, 0] rfl)
  · refine lv_lload_n hx hb d_Short_nearestOfUnit_26 rfl (lv_at hl 1 rfl) ?_
    refine lv_aload_n hx hb d_Short_nearestOfUnit_27 rfl (lv_at hl 2 rfl) ?_
    refine va_get (D := D) (ci := 4) (v := .long (lN (lo))) (C := R_Short) (T := F_Short) (N := 11) hx hb hts i_Short hown hK hP 0 rfl rfl 4 (by decide) (hts _ kw_113_) (fun _ h9 => h9) rfl d_Short_nearestOfUnit_28 ?_
    refine nv_lcmp_ne (tgt := 53) hx hb d_Short_nearestOfUnit_31 d_Short_nearestOfUnit_32 (by decide) (by omega) (by omega) (fun c31 => ?_) (fun c31 => ?_)
    · refine lv_iconst (v := iZ (0)) hx hb d_Short_nearestOfUnit_53 rfl ?_
      refine zv_top (y := bZ (uF sz lo lc bc ut = true)) ((bZ_f (by unfold uF; simp_all)).symm) ?_
      exact lp_Short_nearestOfUnit_54 h0 qe qx sz sc lo lc hi hc bc co tn ut hsz hlo hhi hut C0 hA hE (0 + 1)  _ (Nat.lt_succ_self _)  (hK.sub [] rfl) (hP.sub [0] rfl) (hD.sub [0] (by decide) rfl) hS (lv_sub hl [2, 3, 1, 0] rfl)
    · refine lv_aload_n hx hb d_Short_nearestOfUnit_35 rfl (lv_at hl 2 rfl) ?_
      refine va_get (D := D) (ci := 4) (v := .int (bZ (lc = true))) (C := R_Short) (T := F_Short) (N := 11) hx hb hts i_Short hown hK hP 0 rfl rfl 5 (by decide) (hts _ kw_114_) (fun _ h9 => h9) rfl d_Short_nearestOfUnit_36 ?_
      refine bv_if_ne (tgt := 53) hx hb d_Short_nearestOfUnit_39 (by decide) (fun c39 => ?_) (fun c39 => ?_)
      · refine lv_iconst (v := iZ (0)) hx hb d_Short_nearestOfUnit_53 rfl ?_
        refine zv_top (y := bZ (uF sz lo lc bc ut = true)) ((bZ_f (by unfold uF; simp_all)).symm) ?_
        exact lp_Short_nearestOfUnit_54 h0 qe qx sz sc lo lc hi hc bc co tn ut hsz hlo hhi hut C0 hA hE (0 + 1)  _ (Nat.lt_succ_self _)  (hK.sub [] rfl) (hP.sub [0] rfl) (hD.sub [0] (by decide) rfl) hS (lv_sub hl [2, 3, 1, 0] rfl)
      · refine lv_aload_n hx hb d_Short_nearestOfUnit_42 rfl (lv_at hl 2 rfl) ?_
        refine va_get (D := D) (ci := 4) (v := .int (bZ (bc = true))) (C := R_Short) (T := F_Short) (N := 11) hx hb hts i_Short hown hK hP 0 rfl rfl 8 (by decide) (hts _ kw_112_) (fun _ h9 => h9) rfl d_Short_nearestOfUnit_43 ?_
        refine bv_if_eq (tgt := 53) hx hb d_Short_nearestOfUnit_46 (by decide) (fun c46 => ?_) (fun c46 => ?_)
        · refine lv_iconst (v := iZ (0)) hx hb d_Short_nearestOfUnit_53 rfl ?_
          refine zv_top (y := bZ (uF sz lo lc bc ut = true)) ((bZ_f (by unfold uF; simp_all)).symm) ?_
          exact lp_Short_nearestOfUnit_54 h0 qe qx sz sc lo lc hi hc bc co tn ut hsz hlo hhi hut C0 hA hE (0 + 1)  _ (Nat.lt_succ_self _)  (hK.sub [] rfl) (hP.sub [0] rfl) (hD.sub [0] (by decide) rfl) hS (lv_sub hl [2, 3, 1, 0] rfl)
        · refine lv_iconst (v := iZ (1)) hx hb d_Short_nearestOfUnit_49 rfl ?_
          refine zv_top (y := bZ (uF sz lo lc bc ut = true)) ((bZ_t (by unfold uF; simp_all)).symm) ?_
          refine lv_goto (tgt := 54) hx hb d_Short_nearestOfUnit_50 (by decide) ?_
          exact lp_Short_nearestOfUnit_54 h0 qe qx sz sc lo lc hi hc bc co tn ut hsz hlo hhi hut C0 hA hE (0 + 1)  _ (Nat.lt_succ_self _)  (hK.sub [] rfl) (hP.sub [0] rfl) (hD.sub [0] (by decide) rfl) hS (lv_sub hl [2, 3, 1, 0] rfl)
abbrev Qc_Short_nearestOfLeastLength (D : va_G) (h0 : Nat) (qe : Nat) (qx : Nat) (sz : Nat) (sc : Bool) (lo : Nat) (lc : Bool) (hi : Nat) (hc : Bool) (bc : Bool) (co : Nat) (tn : Int) (A : Nat → Prop) : Array Value → State → Outcome → State → Prop := vp_Sl (fun r : Int64 => r = lN (nLL sz sc lo lc hi hc bc 2 16))
set_option maxHeartbeats 4000000 in
set_option maxRecDepth 100000 in
theorem lp_Short_nearestOfLeastLength_2 {p : Program} {l : Launch} {e : Env} {s : State} {m : MethodId} {args : Array Value} {below : List Frame} {meth : Method} {c : Code} {A : Nat → Prop} {D : va_G} {Z : Nat → Nat} (h0 : Nat) (qe : Nat) (qx : Nat) (sz : Nat) (sc : Bool) (lo : Nat) (lc : Bool) (hi : Nat) (hc : Bool) (bc : Bool) (co : Nat) (tn : Int) (hsz : sz < 1000000000000000000) (hlo : lo < 9223372036854775808) (hhi : hi < 9223372036854775808) (C0 : cxA p s m args meth c b_Short_nearestOfLeastLength 4 R_Short (some .long)) (hA : ∀ q : Nat, s.heap.size ≤ q → A q) (hE : Ev Z A s s.heap) : ∀ (N : Nat) (j : Nat) (ls : Array Slot), 18 - j < N → (2 ≤ j ∧ j ≤ 18) → (nLL sz sc lo lc hi hc bc 2 16 = nLL sz sc lo lc hi hc bc j (18 - j)) → va_K D classes [] s → va_P D classes [(h0, .inr (4, [.ref qe, .ref qx, .long (lN (sz)), .int (bZ (sc = true)), .long (lN (lo)), .int (bZ (lc = true)), .long (lN (hi)), .int (bZ (hc = true)), .int (bZ (bc = true)), .long (lN (co)), .int (iZ (tn))]))] s.heap → va_D A [(h0, .inr (4, [.ref qe, .ref qx, .long (lN (sz)), .int (bZ (sc = true)), .long (lN (lo)), .int (bZ (lc = true)), .long (lN (hi)), .int (bZ (hc = true)), .int (bZ (bc = true)), .long (lN (co)), .int (iZ (tn))]))] → va_S A s.heap s.heap [] → lv_has ls 4 [(0, .ref h0), (1, .int (iZ (((j : Nat) : Int))))] → W p l e ({ frames := 2, cells := 0, slots := 0, locals := 54 } : Room) s m args below meth c s.heap [] 0 0 (MQ below (Qc_Short_nearestOfLeastLength D h0 qe qx sz sc lo lc hi hc bc co tn A) args s 0 0 (fun _ => False)) (F0 m 2 ls []) := by
  obtain ⟨hx, hb, hml, hown, hts, hr, hlocks⟩ := id C0
  intro N
  induction N with
  | zero => intro j ls hN; exact absurd hN (Nat.not_lt_zero _)
  | succ N ih =>
    intro j ls hN hj hq hK hP hD hS hl
    refine lv_iload_n hx hb d_Short_nearestOfLeastLength_2 rfl (lv_at hl 1 rfl) ?_
    refine lv_bipush (v := iZ (18)) hx hb d_Short_nearestOfLeastLength_3 (by decide) ?_
    refine zv_icmp_ge (tgt := 36) hx hb d_Short_nearestOfLeastLength_5 (by decide) (by omega) (by omega) (fun c5 => ?_) (fun c5 => ?_)
    · have e18 : 18 - j = 0 := by omega
      refine lv_aload_n hx hb d_Short_nearestOfLeastLength_36 rfl (lv_at hl 0 rfl) ?_
      refine va_get (D := D) (ci := 4) (v := .long (lN (sz))) (C := R_Short) (T := F_Short) (N := 11) hx hb hts i_Short hown hK hP 0 rfl rfl 2 (by decide) (hts _ kw_103_) (fun _ h9 => h9) rfl d_Short_nearestOfLeastLength_37 ?_
      exact er_l hx hb hr hlocks d_Short_nearestOfLeastLength_40 (show lN (sz) = lN (nLL sz sc lo lc hi hc bc 2 16) from by rw [hq, e18, nLL])
    · have hun : nLL sz sc lo lc hi hc bc j (18 - j) = if nOU sz sc lo lc hi hc bc (10 ^ (18 - j)) = nNo then nLL sz sc lo lc hi hc bc (j + 1) (18 - (j + 1)) else nOU sz sc lo lc hi hc bc (10 ^ (18 - j)) := by
        conv => lhs; rw [show 18 - j = (18 - (j + 1)) + 1 by omega]
        rw [nLL]
      refine lv_aload_n hx hb d_Short_nearestOfLeastLength_8 rfl (lv_at hl 0 rfl) ?_
      refine lv_bipush (v := iZ (18)) hx hb d_Short_nearestOfLeastLength_9 (by decide) ?_
      refine lv_iload_n hx hb d_Short_nearestOfLeastLength_11 rfl (lv_at hl 1 rfl) ?_
      refine zv_isub hx hb d_Short_nearestOfLeastLength_12 ?_
      refine zv_top (y := iZ (((18 - j : Nat) : Int))) (congrArg iZ (by omega)) ?_
      refine kg_l (kr_SN (host := R_FW) (As := [.int (iZ (((18 - j : Nat) : Int)))]) (rest := [.ref h0]) C0 (c_FW_tenTo l D Z _ (18 - j) (by omega)) q_y_FW_tenTo (hE.nw 5 rfl) kw_31_ kw_3_ hd_y_FW_tenTo rfl rfl ⟨Nat.le_of_ble_eq_true rfl, Nat.le_of_ble_eq_true rfl⟩ (hP.sub (ws' := []) [] rfl) (hD.sub (ws' := []) [] (by decide) rfl) (hK.sub (tys' := []) [] rfl) hE hS (va_free (wc := []) hD hS hA [] rfl) rfl hl.1 rfl (Nat.le_of_ble_eq_true rfl) d_Short_nearestOfLeastLength_13 ⟨Nat.le_of_ble_eq_true rfl, Nat.le_of_ble_eq_true rfl⟩) (fun r hr1 => ?_)
      obtain rfl : r = lN (10 ^ (18 - j)) := hr1
      refine kg_l (kr_V (C0 := R_Short) (ci := 4) (i0 := 0) (As := [.long (lN (10 ^ (18 - j)))]) (rest := []) C0 (c_Short_nearestOfUnit l D Z _ h0 qe qx sz sc lo lc hi hc bc co tn (10 ^ (18 - j)) (by assumption) (by assumption) (by assumption) (⟨Nat.pow_pos (by decide), p10_le (j := 16) (by omega)⟩)) q_y_Short_nearestOfUnit kw_115_ kw_116_ kw_117_ kw_106_ hd_y_Short_nearestOfUnit rfl rfl ⟨Nat.le_of_ble_eq_true rfl, Nat.le_of_ble_eq_true rfl⟩ (hP.sub (ws' := [(h0, .inr (4, [.ref qe, .ref qx, .long (lN (sz)), .int (bZ (sc = true)), .long (lN (lo)), .int (bZ (lc = true)), .long (lN (hi)), .int (bZ (hc = true)), .int (bZ (bc = true)), .long (lN (co)), .int (iZ (tn))]))]) [0] rfl) (hD.sub (ws' := [(h0, .inr (4, [.ref qe, .ref qx, .long (lN (sz)), .int (bZ (sc = true)), .long (lN (lo)), .int (bZ (lc = true)), .long (lN (hi)), .int (bZ (hc = true)), .int (bZ (bc = true)), .long (lN (co)), .int (iZ (tn))]))]) [0] (by decide) rfl) (hK.sub (tys' := []) [] rfl) hE hS (va_free (wc := [(h0, .inr (4, [.ref qe, .ref qx, .long (lN (sz)), .int (bZ (sc = true)), .long (lN (lo)), .int (bZ (lc = true)), .long (lN (hi)), .int (bZ (hc = true)), .int (bZ (bc = true)), .long (lN (co)), .int (iZ (tn))]))]) hD hS hA [0] rfl) rfl rfl rfl hl.1 rfl (Nat.le_of_ble_eq_true rfl) d_Short_nearestOfLeastLength_16 ⟨Nat.le_of_ble_eq_true rfl, Nat.le_of_ble_eq_true rfl⟩) (fun r hr1 => ?_)
      obtain rfl : r = lN (nOU sz sc lo lc hi hc bc (10 ^ (18 - j))) := hr1
      refine lv_lstore_n (lv' := [(2, .long (lN (nOU sz sc lo lc hi hc bc (10 ^ (18 - j))))), (0, .ref h0), (1, .int (iZ (((j : Nat) : Int))))]) hx hb d_Short_nearestOfLeastLength_19 rfl hl (by decide) rfl (fun ls hl => ?_)
      refine lv_lload_n hx hb d_Short_nearestOfLeastLength_20 rfl (lv_at hl 0 rfl) ?_
      refine lv_ldc2 (v := (-1)) hx hb hown (hts _ kw_105_) d_Short_nearestOfLeastLength_21 ?_
      refine nv_top (y := lN 18446744073709551615) (by decide) ?_
      refine nv_lcmp_eq (tgt := 30) hx hb d_Short_nearestOfLeastLength_24 d_Short_nearestOfLeastLength_25 (by decide) (nOU64 hsz (p10_le (j := 16) (by omega))) (by decide) (fun c24 => ?_) (fun c24 => ?_)
      · have hq2 : nLL sz sc lo lc hi hc bc j (18 - j) = nLL sz sc lo lc hi hc bc (j + 1) (18 - (j + 1)) := by rw [hun, if_pos (show nOU sz sc lo lc hi hc bc (10 ^ (18 - j)) = nNo from c24)]
        refine lv_iinc (v := iZ (((j + 1 : Nat) : Int))) (lv' := [(1, .int (iZ (((j + 1 : Nat) : Int)))), (2, .long (lN (nOU sz sc lo lc hi hc bc (10 ^ (18 - j))))), (0, .ref h0)]) hx hb d_Short_nearestOfLeastLength_30 hl (k := 2) rfl ((iZ_add _ _).trans (congrArg iZ (by omega))) (by decide) rfl (fun ls hl => ?_)
        refine lv_goto (tgt := 2) hx hb d_Short_nearestOfLeastLength_33 (by decide) ?_
        exact ih (j + 1) _ (by omega) (by omega) (by rw [hq, hq2]) (hK.sub [] rfl) (hP.sub [0] rfl) (hD.sub [0] (by decide) rfl) hS (lv_sub hl [2, 0] rfl)
      · have hq2 : nLL sz sc lo lc hi hc bc j (18 - j) = nOU sz sc lo lc hi hc bc (10 ^ (18 - j)) := by rw [hun, if_neg (show ¬ nOU sz sc lo lc hi hc bc (10 ^ (18 - j)) = nNo from c24)]
        refine lv_lload_n hx hb d_Short_nearestOfLeastLength_28 rfl (lv_at hl 0 rfl) ?_
        exact er_l hx hb hr hlocks d_Short_nearestOfLeastLength_29 (show lN (nOU sz sc lo lc hi hc bc (10 ^ (18 - j))) = lN (nLL sz sc lo lc hi hc bc 2 16) from by rw [hq, hq2])
set_option maxHeartbeats 4000000 in
set_option maxRecDepth 100000 in
theorem c_Short_nearestOfLeastLength (l : Launch) (D : va_G) (Z : Nat → Nat) (hz9 : Nat) (h0 : Nat) (qe : Nat) (qx : Nat) (sz : Nat) (sc : Bool) (lo : Nat) (lc : Bool) (hi : Nat) (hc : Bool) (bc : Bool) (co : Nat) (tn : Int) (hsz : sz < 1000000000000000000) (hlo : lo < 9223372036854775808) (hhi : hi < 9223372036854775808) : Met l y_Short_nearestOfLeastLength (.code y_Short_nearestOfLeastLength b_Short_nearestOfLeastLength 4 (some .long) :: gT) ({ frames := 2, cells := 0, slots := 0, locals := 54 } : Room) (va_Pc [.ref h0] (cpre D Z [(h0, .inr (4, [.ref qe, .ref qx, .long (lN (sz)), .int (bZ (sc = true)), .long (lN (lo)), .int (bZ (lc = true)), .long (lN (hi)), .int (bZ (hc = true)), .int (bZ (bc = true)), .long (lN (co)), .int (iZ (tn))]))] [] hz9)) (Qc_Short_nearestOfLeastLength D h0 qe qx sz sc lo lc hi hc bc co tn (va_A [(h0, .inr (4, [.ref qe, .ref qx, .long (lN (sz)), .int (bZ (sc = true)), .long (lN (lo)), .int (bZ (lc = true)), .long (lN (hi)), .int (bZ (hc = true)), .int (bZ (bc = true)), .long (lN (co)), .int (iZ (tn))]))] hz9)) 0 0 (fun _ => False) := by
  refine met_go (Qf := Qc_Short_nearestOfLeastLength D h0 qe qx sz sc lo lc hi hc bc co tn) (ff := fun _ _ => False) (by decide) ?_
  intro p e s m below meth c A C0 hin hsz9 hA hE hK hP hD
  obtain ⟨hx, hb, hml, hown, hts, hr, hlocks⟩ := id C0
  have hS : va_S A s.heap s.heap [] := va_S.rf
  have hl := lv_entry [.ref h0] (n := 4) (Nat.le_of_ble_eq_true rfl)
  rw [lg_entry_eq]
  generalize (lg_sl [.ref h0] ++ List.replicate (4 - (lg_sl [.ref h0]).length) Slot.unset).toArray = ls at hl ⊢
  have hl : lv_has ls 4 [(0, .ref h0)] := hl
  refine lv_iconst (v := iZ (2)) hx hb d_Short_nearestOfLeastLength_0 rfl ?_
  refine lv_istore_n (lv' := [(1, .int (iZ (2))), (0, .ref h0)]) hx hb d_Short_nearestOfLeastLength_1 rfl hl (by decide) rfl (fun ls hl => ?_)
  exact lp_Short_nearestOfLeastLength_2 h0 qe qx sz sc lo lc hi hc bc co tn hsz hlo hhi C0 hA hE (18 - 2 + 1) 2 _ (Nat.lt_succ_self _) (by omega) (rfl) (hK.sub [] rfl) (hP.sub [0] rfl) (hD.sub [0] (by decide) rfl) hS (lv_sub hl [1, 0] rfl)
abbrev Qc_Short_dropZeros (D : va_G) (h0 : Nat) (qe : Nat) (qx : Nat) (sz : Nat) (sc : Bool) (lo : Nat) (lc : Bool) (hi : Nat) (hc : Bool) (bc : Bool) (co : Nat) (tn : Int) (A : Nat → Prop) : Array Value → State → Outcome → State → Prop := va_Qv (fun u : Unit => True) (fun (u : Unit) t9 => cpost D A [(h0, .inr (4, [.ref qe, .ref qx, .long (lN (sz)), .int (bZ (sc = true)), .long (lN (lo)), .int (bZ (lc = true)), .long (lN (hi)), .int (bZ (hc = true)), .int (bZ (bc = true)), .long (lN ((drZ 18 co tn).1)), .int (iZ ((drZ 18 co tn).2))]))] [] t9) A
set_option maxHeartbeats 4000000 in
set_option maxRecDepth 100000 in
theorem lp_Short_dropZeros_2 {p : Program} {l : Launch} {e : Env} {s : State} {m : MethodId} {args : Array Value} {below : List Frame} {meth : Method} {c : Code} {A : Nat → Prop} {D : va_G} {Z : Nat → Nat} (h0 : Nat) (qe : Nat) (qx : Nat) (sz : Nat) (sc : Bool) (lo : Nat) (lc : Bool) (hi : Nat) (hc : Bool) (bc : Bool) (co : Nat) (tn : Int) (hco : co < 9223372036854775808) (C0 : cxA p s m args meth c b_Short_dropZeros 2 R_Short none) (hA : ∀ q : Nat, s.heap.size ≤ q → A q) (hE : Ev Z A s s.heap) : ∀ (N : Nat) (i : Nat) (c2 : Nat) (t2 : Int) (H : Heap) (locs : List Loc) (ls : Array Slot), 18 - i < N → (i ≤ 18) → (c2 < 9223372036854775808) → (drZ 18 co tn = drZ (18 - i) c2 t2) → va_K D classes [] s → va_P D classes [(h0, .inr (4, [.ref qe, .ref qx, .long (lN (sz)), .int (bZ (sc = true)), .long (lN (lo)), .int (bZ (lc = true)), .long (lN (hi)), .int (bZ (hc = true)), .int (bZ (bc = true)), .long (lN (c2)), .int (iZ (t2))]))] H → va_D A [(h0, .inr (4, [.ref qe, .ref qx, .long (lN (sz)), .int (bZ (sc = true)), .long (lN (lo)), .int (bZ (lc = true)), .long (lN (hi)), .int (bZ (hc = true)), .int (bZ (bc = true)), .long (lN (c2)), .int (iZ (t2))]))] → va_S A s.heap H locs → lv_has ls 2 [(0, .ref h0), (1, .int (iZ (((i : Nat) : Int))))] → W p l e ({ frames := 0, cells := 0, slots := 0, locals := 0 } : Room) s m args below meth c H locs 0 0 (MQ below (Qc_Short_dropZeros D h0 qe qx sz sc lo lc hi hc bc co tn A) args s 0 0 A) (F0 m 2 ls []) := by
  obtain ⟨hx, hb, hml, hown, hts, hr, hlocks⟩ := id C0
  intro N
  induction N with
  | zero => intro i c2 t2 H locs ls hN; exact absurd hN (Nat.not_lt_zero _)
  | succ N ih =>
    intro i c2 t2 H locs ls hN hi9 hc2 hq hK hP hD hS hl
    refine lv_iload_n hx hb d_Short_dropZeros_2 rfl (lv_at hl 1 rfl) ?_
    refine lv_bipush (v := iZ (18)) hx hb d_Short_dropZeros_3 (by decide) ?_
    refine zv_icmp_ge (tgt := 49) hx hb d_Short_dropZeros_5 (by decide) (by omega) (by omega) (fun c5 => ?_) (fun c5 => ?_)
    · have he : drZ 18 co tn = (c2, t2) := by rw [hq, show 18 - i = 0 by omega, drZ]
      have hP : va_P D classes [(h0, .inr (4, [.ref qe, .ref qx, .long (lN (sz)), .int (bZ (sc = true)), .long (lN (lo)), .int (bZ (lc = true)), .long (lN (hi)), .int (bZ (hc = true)), .int (bZ (bc = true)), .long (lN ((drZ 18 co tn).1)), .int (iZ ((drZ 18 co tn).2))]))] H := by rw [he]; exact hP
      have hD : va_D A [(h0, .inr (4, [.ref qe, .ref qx, .long (lN (sz)), .int (bZ (sc = true)), .long (lN (lo)), .int (bZ (lc = true)), .long (lN (hi)), .int (bZ (hc = true)), .int (bZ (bc = true)), .long (lN ((drZ 18 co tn).1)), .int (iZ ((drZ 18 co tn).2))]))] := by rw [he]; exact hD
      exact ew_v () hx hb hr hlocks d_Short_dropZeros_49 (trivial) (hP.sub (ws' := [(h0, .inr (4, [.ref qe, .ref qx, .long (lN (sz)), .int (bZ (sc = true)), .long (lN (lo)), .int (bZ (lc = true)), .long (lN (hi)), .int (bZ (hc = true)), .int (bZ (bc = true)), .long (lN ((drZ 18 co tn).1)), .int (iZ ((drZ 18 co tn).2))]))]) [0] rfl) (hD.sub (ws' := [(h0, .inr (4, [.ref qe, .ref qx, .long (lN (sz)), .int (bZ (sc = true)), .long (lN (lo)), .int (bZ (lc = true)), .long (lN (hi)), .int (bZ (hc = true)), .int (bZ (bc = true)), .long (lN ((drZ 18 co tn).1)), .int (iZ ((drZ 18 co tn).2))]))]) [0] (by decide) rfl) (hK.sub (tys' := []) [] rfl) hS (Nat.le_of_ble_eq_true rfl) (Nat.le_of_ble_eq_true rfl)
    · have hun : drZ (18 - i) c2 t2 = if c2 % 10 = 0 then drZ (18 - (i + 1)) (c2 / 10) (t2 + 1) else (c2, t2) := by rw [show 18 - i = (18 - (i + 1)) + 1 by omega, drZ]
      refine lv_aload_n hx hb d_Short_dropZeros_8 rfl (lv_at hl 0 rfl) ?_
      refine va_get (D := D) (ci := 4) (v := .long (lN (c2))) (C := R_Short) (T := F_Short) (N := 11) hx hb hts i_Short hown hK hP 0 rfl rfl 9 (by decide) (hts _ kw_99_) (fun _ h9 => h9) rfl d_Short_dropZeros_9 ?_
      refine lv_ldc2 (v := (10)) hx hb hown (hts _ kw_101_) d_Short_dropZeros_12 ?_
      refine nv_top (y := lN 10) (by decide) ?_
      refine nv_lrem hx hb d_Short_dropZeros_15 (by omega) (by decide) (by decide) ?_
      refine lv_lconst (v := lN 0) hx hb d_Short_dropZeros_16 rfl ?_
      refine nv_lcmp_ne (tgt := 49) hx hb d_Short_dropZeros_17 d_Short_dropZeros_18 (by decide) (by omega) (by decide) (fun c17 => ?_) (fun c17 => ?_)
      · have he : drZ 18 co tn = (c2, t2) := by rw [hq, hun, if_neg c17]
        have hP : va_P D classes [(h0, .inr (4, [.ref qe, .ref qx, .long (lN (sz)), .int (bZ (sc = true)), .long (lN (lo)), .int (bZ (lc = true)), .long (lN (hi)), .int (bZ (hc = true)), .int (bZ (bc = true)), .long (lN ((drZ 18 co tn).1)), .int (iZ ((drZ 18 co tn).2))]))] H := by rw [he]; exact hP
        have hD : va_D A [(h0, .inr (4, [.ref qe, .ref qx, .long (lN (sz)), .int (bZ (sc = true)), .long (lN (lo)), .int (bZ (lc = true)), .long (lN (hi)), .int (bZ (hc = true)), .int (bZ (bc = true)), .long (lN ((drZ 18 co tn).1)), .int (iZ ((drZ 18 co tn).2))]))] := by rw [he]; exact hD
        exact ew_v () hx hb hr hlocks d_Short_dropZeros_49 (trivial) (hP.sub (ws' := [(h0, .inr (4, [.ref qe, .ref qx, .long (lN (sz)), .int (bZ (sc = true)), .long (lN (lo)), .int (bZ (lc = true)), .long (lN (hi)), .int (bZ (hc = true)), .int (bZ (bc = true)), .long (lN ((drZ 18 co tn).1)), .int (iZ ((drZ 18 co tn).2))]))]) [0] rfl) (hD.sub (ws' := [(h0, .inr (4, [.ref qe, .ref qx, .long (lN (sz)), .int (bZ (sc = true)), .long (lN (lo)), .int (bZ (lc = true)), .long (lN (hi)), .int (bZ (hc = true)), .int (bZ (bc = true)), .long (lN ((drZ 18 co tn).1)), .int (iZ ((drZ 18 co tn).2))]))]) [0] (by decide) rfl) (hK.sub (tys' := []) [] rfl) hS (Nat.le_of_ble_eq_true rfl) (Nat.le_of_ble_eq_true rfl)
      · have hq2 : drZ 18 co tn = drZ (18 - (i + 1)) (c2 / 10) (t2 + 1) := by rw [hq, hun, if_pos c17]
        refine lv_aload_n hx hb d_Short_dropZeros_21 rfl (lv_at hl 0 rfl) ?_
        refine lv_dup hx hb d_Short_dropZeros_22 rfl ?_
        refine va_get (D := D) (ci := 4) (v := .long (lN (c2))) (C := R_Short) (T := F_Short) (N := 11) hx hb hts i_Short hown hK hP 0 rfl rfl 9 (by decide) (hts _ kw_99_) (fun _ h9 => h9) rfl d_Short_dropZeros_23 ?_
        refine lv_ldc2 (v := (10)) hx hb hown (hts _ kw_101_) d_Short_dropZeros_26 ?_
        refine nv_top (y := lN 10) (by decide) ?_
        refine nv_ldiv hx hb d_Short_dropZeros_29 (by omega) (by decide) (by decide) ?_
        refine va_put (D := D) (ci := 4) (v := .long (lN (c2 / 10))) (ty := .long) (C := R_Short) (T := F_Short) (N := 11) hx hb hts i_Short t_Short t_Short_ok n_Short hown hK hP hD hS 0 rfl rfl 9 (by decide) (hts _ kw_99_) (fun _ h9 => h9) rfl (by decide +kernel) rfl rfl (Nat.le_of_ble_eq_true rfl) d_Short_dropZeros_30 (fun H locs hP hD hS => ?_)
        have hP : va_P D classes [(h0, .inr (4, [.ref qe, .ref qx, .long (lN (sz)), .int (bZ (sc = true)), .long (lN (lo)), .int (bZ (lc = true)), .long (lN (hi)), .int (bZ (hc = true)), .int (bZ (bc = true)), .long (lN (c2 / 10)), .int (iZ (t2))]))] H := hP
        have hD : va_D A [(h0, .inr (4, [.ref qe, .ref qx, .long (lN (sz)), .int (bZ (sc = true)), .long (lN (lo)), .int (bZ (lc = true)), .long (lN (hi)), .int (bZ (hc = true)), .int (bZ (bc = true)), .long (lN (c2 / 10)), .int (iZ (t2))]))] := hD
        refine lv_aload_n hx hb d_Short_dropZeros_33 rfl (lv_at hl 0 rfl) ?_
        refine lv_dup hx hb d_Short_dropZeros_34 rfl ?_
        refine va_get (D := D) (ci := 4) (v := .int (iZ (t2))) (C := R_Short) (T := F_Short) (N := 11) hx hb hts i_Short hown hK hP 0 rfl rfl 10 (by decide) (hts _ kw_100_) (fun _ h9 => h9) rfl d_Short_dropZeros_35 ?_
        refine lv_iconst (v := iZ (1)) hx hb d_Short_dropZeros_38 rfl ?_
        refine zv_iadd hx hb d_Short_dropZeros_39 ?_
        refine va_put (D := D) (ci := 4) (v := .int (iZ (t2 + 1))) (ty := .int) (C := R_Short) (T := F_Short) (N := 11) hx hb hts i_Short t_Short t_Short_ok n_Short hown hK hP hD hS 0 rfl rfl 10 (by decide) (hts _ kw_100_) (fun _ h9 => h9) rfl (by decide +kernel) rfl rfl (Nat.le_of_ble_eq_true rfl) d_Short_dropZeros_40 (fun H locs hP hD hS => ?_)
        have hP : va_P D classes [(h0, .inr (4, [.ref qe, .ref qx, .long (lN (sz)), .int (bZ (sc = true)), .long (lN (lo)), .int (bZ (lc = true)), .long (lN (hi)), .int (bZ (hc = true)), .int (bZ (bc = true)), .long (lN (c2 / 10)), .int (iZ (t2 + 1))]))] H := hP
        have hD : va_D A [(h0, .inr (4, [.ref qe, .ref qx, .long (lN (sz)), .int (bZ (sc = true)), .long (lN (lo)), .int (bZ (lc = true)), .long (lN (hi)), .int (bZ (hc = true)), .int (bZ (bc = true)), .long (lN (c2 / 10)), .int (iZ (t2 + 1))]))] := hD
        refine lv_iinc (v := iZ (((i + 1 : Nat) : Int))) (lv' := [(1, .int (iZ (((i + 1 : Nat) : Int)))), (0, .ref h0)]) hx hb d_Short_dropZeros_43 hl (k := 1) rfl ((iZ_add _ _).trans (congrArg iZ (by omega))) (by decide) rfl (fun ls hl => ?_)
        refine lv_goto (tgt := 2) hx hb d_Short_dropZeros_46 (by decide) ?_
        exact ih (i + 1) (c2 / 10) (t2 + 1) _ _ _ (by omega) (by omega) (by omega) (hq2) (hK.sub [] rfl) (hP.sub [0] rfl) (hD.sub [0] (by decide) rfl) hS (lv_sub hl [1, 0] rfl)
set_option maxHeartbeats 4000000 in
set_option maxRecDepth 100000 in
theorem c_Short_dropZeros (l : Launch) (D : va_G) (Z : Nat → Nat) (hz9 : Nat) (h0 : Nat) (qe : Nat) (qx : Nat) (sz : Nat) (sc : Bool) (lo : Nat) (lc : Bool) (hi : Nat) (hc : Bool) (bc : Bool) (co : Nat) (tn : Int) (hco : co < 9223372036854775808) : Met l y_Short_dropZeros (.code y_Short_dropZeros b_Short_dropZeros 2 none :: gT) ({ frames := 0, cells := 0, slots := 0, locals := 0 } : Room) (va_Pc [.ref h0] (cpre D Z [(h0, .inr (4, [.ref qe, .ref qx, .long (lN (sz)), .int (bZ (sc = true)), .long (lN (lo)), .int (bZ (lc = true)), .long (lN (hi)), .int (bZ (hc = true)), .int (bZ (bc = true)), .long (lN (co)), .int (iZ (tn))]))] [] hz9)) (Qc_Short_dropZeros D h0 qe qx sz sc lo lc hi hc bc co tn (va_A [(h0, .inr (4, [.ref qe, .ref qx, .long (lN (sz)), .int (bZ (sc = true)), .long (lN (lo)), .int (bZ (lc = true)), .long (lN (hi)), .int (bZ (hc = true)), .int (bZ (bc = true)), .long (lN (co)), .int (iZ (tn))]))] hz9)) 0 0 (va_A [(h0, .inr (4, [.ref qe, .ref qx, .long (lN (sz)), .int (bZ (sc = true)), .long (lN (lo)), .int (bZ (lc = true)), .long (lN (hi)), .int (bZ (hc = true)), .int (bZ (bc = true)), .long (lN (co)), .int (iZ (tn))]))] hz9) := by
  refine met_go (Qf := Qc_Short_dropZeros D h0 qe qx sz sc lo lc hi hc bc co tn) (ff := fun A => A) (by decide) ?_
  intro p e s m below meth c A C0 hin hsz9 hA hE hK hP hD
  obtain ⟨hx, hb, hml, hown, hts, hr, hlocks⟩ := id C0
  have hS : va_S A s.heap s.heap [] := va_S.rf
  have hl := lv_entry [.ref h0] (n := 2) (Nat.le_of_ble_eq_true rfl)
  rw [lg_entry_eq]
  generalize (lg_sl [.ref h0] ++ List.replicate (2 - (lg_sl [.ref h0]).length) Slot.unset).toArray = ls at hl ⊢
  have hl : lv_has ls 2 [(0, .ref h0)] := hl
  refine lv_iconst (v := iZ (0)) hx hb d_Short_dropZeros_0 rfl ?_
  refine lv_istore_n (lv' := [(1, .int (iZ (0))), (0, .ref h0)]) hx hb d_Short_dropZeros_1 rfl hl (by decide) rfl (fun ls hl => ?_)
  exact lp_Short_dropZeros_2 h0 qe qx sz sc lo lc hi hc bc co tn hco C0 hA hE (18 - 0 + 1) 0 co tn _ _ _ (Nat.lt_succ_self _) (by omega) (by omega) (rfl) (hK.sub [] rfl) (hP.sub [0] rfl) (hD.sub [0] (by decide) rfl) hS (lv_sub hl [1, 0] rfl)
