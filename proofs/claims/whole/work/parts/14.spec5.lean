theorem kw_41_ : Cond.methodLink R_Exact 1 objectInit ∈ gT := gT_in 44 (by decide +kernel) (by decide +kernel)
theorem kw_42_ : Cond.classLink R_Exact 7 R_Big ∈ gT := gT_in 45 (by decide +kernel) (by decide +kernel)
theorem kw_43_ : Cond.instantiable R_Big 2 ∈ gT := gT_in 46 (by decide +kernel) (by decide +kernel)
theorem kw_44_ : Cond.methodLink R_Exact 9 y_Big_init ∈ gT := gT_in 47 (by decide +kernel) (by decide +kernel)
theorem kw_45_ : Cond.instanceMethod y_Big_init ∈ gT := gT_in 48 (by decide +kernel) (by decide +kernel)
theorem kw_46_ : Cond.fieldLink R_Exact 10 "FloatWriter$Exact" "quarter" "LFloatWriter$Big;" ∈ gT := gT_in 59 (by decide +kernel) (by decide +kernel)
theorem kw_47_ : Cond.fieldLink R_Exact 16 "FloatWriter$Exact" "size" "LFloatWriter$Big;" ∈ gT := gT_in 60 (by decide +kernel) (by decide +kernel)
theorem kw_48_ : Cond.fieldLink R_Exact 19 "FloatWriter$Exact" "scale" "I" ∈ gT := gT_in 61 (by decide +kernel) (by decide +kernel)
theorem kw_49_ : Cond.methodLink R_Exact 23 y_Big_setToOne ∈ gT := gT_in 349 (by decide +kernel) (by decide +kernel)
theorem kw_50_ : Cond.instanceMethod y_Big_setToOne ∈ gT := gT_in 350 (by decide +kernel) (by decide +kernel)
theorem kw_51_ : Cond.selects R_Big y_Big_setToOne y_Big_setToOne ∈ gT := gT_in 351 (by decide +kernel) (by decide +kernel)
theorem kw_52_ : Cond.methodLink R_Exact 30 y_Big_multiplyByFives ∈ gT := gT_in 367 (by decide +kernel) (by decide +kernel)
theorem kw_53_ : Cond.instanceMethod y_Big_multiplyByFives ∈ gT := gT_in 368 (by decide +kernel) (by decide +kernel)
theorem kw_54_ : Cond.selects R_Big y_Big_multiplyByFives y_Big_multiplyByFives ∈ gT := gT_in 369 (by decide +kernel) (by decide +kernel)
theorem kw_55_ : Cond.methodLink R_Exact 39 y_Big_multiply ∈ gT := gT_in 378 (by decide +kernel) (by decide +kernel)
theorem kw_56_ : Cond.constantLong R_Exact 43 (4) ∈ gT := gT_in 379 (by decide +kernel) (by decide +kernel)
theorem kw_57_ : Cond.methodLink R_Exact 45 y_Big_setToProduct ∈ gT := gT_in 380 (by decide +kernel) (by decide +kernel)
theorem kw_58_ : Cond.instanceMethod y_Big_setToProduct ∈ gT := gT_in 381 (by decide +kernel) (by decide +kernel)
theorem kw_59_ : Cond.selects R_Big y_Big_setToProduct y_Big_setToProduct ∈ gT := gT_in 382 (by decide +kernel) (by decide +kernel)
theorem kw_60_ : Cond.methodLink R_Exact 26 y_Big_multiplyByTwos ∈ gT := gT_in 357 (by decide +kernel) (by decide +kernel)
theorem kw_61_ : Cond.instanceMethod y_Big_multiplyByTwos ∈ gT := gT_in 358 (by decide +kernel) (by decide +kernel)
theorem kw_62_ : Cond.selects R_Big y_Big_multiplyByTwos y_Big_multiplyByTwos ∈ gT := gT_in 359 (by decide +kernel) (by decide +kernel)
theorem kw_63_ : Cond.methodLink R_Exact 49 y_Big_isZero ∈ gT := gT_in 582 (by decide +kernel) (by decide +kernel)
theorem kw_64_ : Cond.instanceMethod y_Big_isZero ∈ gT := gT_in 583 (by decide +kernel) (by decide +kernel)
theorem kw_65_ : Cond.selects R_Big y_Big_isZero y_Big_isZero ∈ gT := gT_in 584 (by decide +kernel) (by decide +kernel)
theorem kw_66_ : Cond.methodLink R_Exact 53 y_Big_figureCount ∈ gT := gT_in 388 (by decide +kernel) (by decide +kernel)
theorem kw_67_ : Cond.instanceMethod y_Big_figureCount ∈ gT := gT_in 389 (by decide +kernel) (by decide +kernel)
theorem kw_68_ : Cond.selects R_Big y_Big_figureCount y_Big_figureCount ∈ gT := gT_in 390 (by decide +kernel) (by decide +kernel)
theorem kw_69_ : Cond.methodLink R_Exact 57 y_Big_figureAt ∈ gT := gT_in 553 (by decide +kernel) (by decide +kernel)
theorem kw_70_ : Cond.instanceMethod y_Big_figureAt ∈ gT := gT_in 554 (by decide +kernel) (by decide +kernel)
theorem kw_71_ : Cond.selects R_Big y_Big_figureAt y_Big_figureAt ∈ gT := gT_in 555 (by decide +kernel) (by decide +kernel)
theorem kw_72_ : Cond.methodLink R_Exact 61 y_Big_hasAnyBelow ∈ gT := gT_in 410 (by decide +kernel) (by decide +kernel)
theorem kw_73_ : Cond.instanceMethod y_Big_hasAnyBelow ∈ gT := gT_in 411 (by decide +kernel) (by decide +kernel)
theorem kw_74_ : Cond.selects R_Big y_Big_hasAnyBelow y_Big_hasAnyBelow ∈ gT := gT_in 412 (by decide +kernel) (by decide +kernel)
theorem kw_75_ : Cond.methodLink R_Exact 65 y_Big_from ∈ gT := gT_in 398 (by decide +kernel) (by decide +kernel)
theorem kw_76_ : Cond.instanceMethod y_Big_from ∈ gT := gT_in 399 (by decide +kernel) (by decide +kernel)
theorem kw_77_ : Cond.selects R_Big y_Big_from y_Big_from ∈ gT := gT_in 400 (by decide +kernel) (by decide +kernel)
theorem kw_78_ : Cond.initialized R_Exact ∈ gT := gT_in 3 (by decide +kernel) (by decide +kernel)
theorem kw_79_ : Cond.methodLink R_Exact 68 y_Exact_goesUp ∈ gT := gT_in 549 (by decide +kernel) (by decide +kernel)
theorem kw_80_ : Cond.instanceMethod y_Exact_goesUp ∈ gT := gT_in 551 (by decide +kernel) (by decide +kernel)
theorem kw_81_ : Cond.selects R_Exact y_Exact_goesUp y_Exact_goesUp ∈ gT := gT_sel (by decide +kernel) (by decide +kernel)
theorem kw_82_ : Cond.methodLink R_Exact 72 y_Big_addTenTo ∈ gT := gT_in 558 (by decide +kernel) (by decide +kernel)
theorem kw_83_ : Cond.instanceMethod y_Big_addTenTo ∈ gT := gT_in 559 (by decide +kernel) (by decide +kernel)
theorem kw_84_ : Cond.selects R_Big y_Big_addTenTo y_Big_addTenTo ∈ gT := gT_in 560 (by decide +kernel) (by decide +kernel)
set_option maxRecDepth 100000 in
theorem q_y_Big_init : Cond.code y_Big_init b_Big_init 1 none ∈ gT := gT_in 49 rfl rfl
set_option maxRecDepth 100000 in
theorem q_y_Big_setToOne : Cond.code y_Big_setToOne b_Big_setToOne 1 none ∈ gT := gT_in 352 rfl rfl
set_option maxRecDepth 100000 in
theorem q_y_Big_multiplyByFives : Cond.code y_Big_multiplyByFives b_Big_multiplyByFives 5 none ∈ gT := gT_in 370 rfl rfl
set_option maxRecDepth 100000 in
theorem q_y_Big_setToProduct : Cond.code y_Big_setToProduct b_Big_setToProduct 5 none ∈ gT := gT_in 383 rfl rfl
set_option maxRecDepth 100000 in
theorem q_y_Big_multiplyByTwos : Cond.code y_Big_multiplyByTwos b_Big_multiplyByTwos 3 none ∈ gT := gT_in 360 rfl rfl
set_option maxRecDepth 100000 in
theorem q_y_Big_isZero : Cond.code y_Big_isZero b_Big_isZero 1 (some .boolean) ∈ gT := gT_in 585 rfl rfl
set_option maxRecDepth 100000 in
theorem q_y_Big_figureCount : Cond.code y_Big_figureCount b_Big_figureCount 2 (some .int) ∈ gT := gT_in 391 rfl rfl
set_option maxRecDepth 100000 in
theorem q_y_Big_figureAt : Cond.code y_Big_figureAt b_Big_figureAt 4 (some .int) ∈ gT := gT_in 556 rfl rfl
set_option maxRecDepth 100000 in
theorem q_y_Big_hasAnyBelow : Cond.code y_Big_hasAnyBelow b_Big_hasAnyBelow 4 (some .boolean) ∈ gT := gT_in 413 rfl rfl
set_option maxRecDepth 100000 in
theorem q_y_Big_from : Cond.code y_Big_from b_Big_from 4 (some .long) ∈ gT := gT_in 401 rfl rfl
set_option maxRecDepth 100000 in
theorem q_y_Exact_goesUp : Cond.code y_Exact_goesUp b_Exact_goesUp 5 (some .boolean) ∈ gT := gT_in 552 rfl rfl
set_option maxRecDepth 100000 in
theorem q_y_Big_addTenTo : Cond.code y_Big_addTenTo b_Big_addTenTo 8 none ∈ gT := gT_in 561 rfl rfl
theorem hd_y_Big_init : y_Big_init.cls ≠ "java/lang/invoke/MethodHandle" ∧ y_Big_init.cls ≠ "java/lang/invoke/VarHandle" ∧ (parseMethodDescriptor y_Big_init.desc).map (fun d => d.parameters.length) = some 0 := by decide +kernel
theorem hd_y_Big_setToOne : y_Big_setToOne.cls ≠ "java/lang/invoke/MethodHandle" ∧ y_Big_setToOne.cls ≠ "java/lang/invoke/VarHandle" ∧ (parseMethodDescriptor y_Big_setToOne.desc).map (fun d => d.parameters.length) = some 0 := by decide +kernel
theorem hd_y_Big_multiplyByFives : y_Big_multiplyByFives.cls ≠ "java/lang/invoke/MethodHandle" ∧ y_Big_multiplyByFives.cls ≠ "java/lang/invoke/VarHandle" ∧ (parseMethodDescriptor y_Big_multiplyByFives.desc).map (fun d => d.parameters.length) = some 1 := by decide +kernel
theorem hd_y_Big_setToProduct : y_Big_setToProduct.cls ≠ "java/lang/invoke/MethodHandle" ∧ y_Big_setToProduct.cls ≠ "java/lang/invoke/VarHandle" ∧ (parseMethodDescriptor y_Big_setToProduct.desc).map (fun d => d.parameters.length) = some 2 := by decide +kernel
theorem hd_y_Big_multiplyByTwos : y_Big_multiplyByTwos.cls ≠ "java/lang/invoke/MethodHandle" ∧ y_Big_multiplyByTwos.cls ≠ "java/lang/invoke/VarHandle" ∧ (parseMethodDescriptor y_Big_multiplyByTwos.desc).map (fun d => d.parameters.length) = some 1 := by decide +kernel
theorem hd_y_Big_isZero : y_Big_isZero.cls ≠ "java/lang/invoke/MethodHandle" ∧ y_Big_isZero.cls ≠ "java/lang/invoke/VarHandle" ∧ (parseMethodDescriptor y_Big_isZero.desc).map (fun d => d.parameters.length) = some 0 := by decide +kernel
theorem hd_y_Big_figureCount : y_Big_figureCount.cls ≠ "java/lang/invoke/MethodHandle" ∧ y_Big_figureCount.cls ≠ "java/lang/invoke/VarHandle" ∧ (parseMethodDescriptor y_Big_figureCount.desc).map (fun d => d.parameters.length) = some 0 := by decide +kernel
theorem hd_y_Big_figureAt : y_Big_figureAt.cls ≠ "java/lang/invoke/MethodHandle" ∧ y_Big_figureAt.cls ≠ "java/lang/invoke/VarHandle" ∧ (parseMethodDescriptor y_Big_figureAt.desc).map (fun d => d.parameters.length) = some 1 := by decide +kernel
theorem hd_y_Big_hasAnyBelow : y_Big_hasAnyBelow.cls ≠ "java/lang/invoke/MethodHandle" ∧ y_Big_hasAnyBelow.cls ≠ "java/lang/invoke/VarHandle" ∧ (parseMethodDescriptor y_Big_hasAnyBelow.desc).map (fun d => d.parameters.length) = some 1 := by decide +kernel
theorem hd_y_Big_from : y_Big_from.cls ≠ "java/lang/invoke/MethodHandle" ∧ y_Big_from.cls ≠ "java/lang/invoke/VarHandle" ∧ (parseMethodDescriptor y_Big_from.desc).map (fun d => d.parameters.length) = some 1 := by decide +kernel
theorem hd_y_Exact_goesUp : y_Exact_goesUp.cls ≠ "java/lang/invoke/MethodHandle" ∧ y_Exact_goesUp.cls ≠ "java/lang/invoke/VarHandle" ∧ (parseMethodDescriptor y_Exact_goesUp.desc).map (fun d => d.parameters.length) = some 2 := by decide +kernel
theorem hd_y_Big_addTenTo : y_Big_addTenTo.cls ≠ "java/lang/invoke/MethodHandle" ∧ y_Big_addTenTo.cls ≠ "java/lang/invoke/VarHandle" ∧ (parseMethodDescriptor y_Big_addTenTo.desc).map (fun d => d.parameters.length) = some 1 := by decide +kernel
theorem d_Exact_init_0 : decode b_Exact_init 0 = .ok (.aload_n 0, 1) := by decide +kernel
theorem d_Exact_init_1 : decode b_Exact_init 1 = .ok (.invokespecial 1, 3) := by decide +kernel
theorem d_Exact_init_4 : decode b_Exact_init 4 = .ok (.aload_n 0, 1) := by decide +kernel
theorem d_Exact_init_5 : decode b_Exact_init 5 = .ok (.new 7, 3) := by decide +kernel
theorem d_Exact_init_8 : decode b_Exact_init 8 = .ok (.dup, 1) := by decide +kernel
theorem d_Exact_init_9 : decode b_Exact_init 9 = .ok (.invokespecial 9, 3) := by decide +kernel
theorem d_Exact_init_12 : decode b_Exact_init 12 = .ok (.putfield 10, 3) := by decide +kernel
theorem d_Exact_init_15 : decode b_Exact_init 15 = .ok (.aload_n 0, 1) := by decide +kernel
theorem d_Exact_init_16 : decode b_Exact_init 16 = .ok (.new 7, 3) := by decide +kernel
theorem d_Exact_init_19 : decode b_Exact_init 19 = .ok (.dup, 1) := by decide +kernel
theorem d_Exact_init_20 : decode b_Exact_init 20 = .ok (.invokespecial 9, 3) := by decide +kernel
theorem d_Exact_init_23 : decode b_Exact_init 23 = .ok (.putfield 16, 3) := by decide +kernel
theorem d_Exact_init_26 : decode b_Exact_init 26 = .ok (.aload_n 0, 1) := by decide +kernel
theorem d_Exact_init_27 : decode b_Exact_init 27 = .ok (.iconst 0, 1) := by decide +kernel
theorem d_Exact_init_28 : decode b_Exact_init 28 = .ok (.putfield 19, 3) := by decide +kernel
theorem d_Exact_init_31 : decode b_Exact_init 31 = .ok (.return_, 1) := by decide +kernel
theorem d_Exact_expand_0 : decode b_Exact_expand 0 = .ok (.lload_n 1, 1) := by decide +kernel
theorem d_Exact_expand_1 : decode b_Exact_expand 1 = .ok (.lconst 0, 1) := by decide +kernel
theorem d_Exact_expand_2 : decode b_Exact_expand 2 = .ok (.lcmp, 1) := by decide +kernel
theorem d_Exact_expand_3 : decode b_Exact_expand 3 = .ok (.ifCond .ne 7, 3) := by decide +kernel
theorem d_Exact_expand_6 : decode b_Exact_expand 6 = .ok (.iconst 0, 1) := by decide +kernel
theorem d_Exact_expand_7 : decode b_Exact_expand 7 = .ok (.goto 6, 3) := by decide +kernel
theorem d_Exact_expand_10 : decode b_Exact_expand 10 = .ok (.iload_n 3, 1) := by decide +kernel
theorem d_Exact_expand_11 : decode b_Exact_expand 11 = .ok (.iconst 2, 1) := by decide +kernel
theorem d_Exact_expand_12 : decode b_Exact_expand 12 = .ok (.isub, 1) := by decide +kernel
theorem d_Exact_expand_13 : decode b_Exact_expand 13 = .ok (.istore 4, 2) := by decide +kernel
theorem d_Exact_expand_15 : decode b_Exact_expand 15 = .ok (.aload_n 0, 1) := by decide +kernel
theorem d_Exact_expand_16 : decode b_Exact_expand 16 = .ok (.getfield 10, 3) := by decide +kernel
theorem d_Exact_expand_19 : decode b_Exact_expand 19 = .ok (.invokevirtual 23, 3) := by decide +kernel
theorem d_Exact_expand_22 : decode b_Exact_expand 22 = .ok (.iload 4, 2) := by decide +kernel
theorem d_Exact_expand_24 : decode b_Exact_expand 24 = .ok (.ifCond .lt 21, 3) := by decide +kernel
theorem d_Exact_expand_27 : decode b_Exact_expand 27 = .ok (.aload_n 0, 1) := by decide +kernel
theorem d_Exact_expand_28 : decode b_Exact_expand 28 = .ok (.getfield 10, 3) := by decide +kernel
theorem d_Exact_expand_31 : decode b_Exact_expand 31 = .ok (.iload 4, 2) := by decide +kernel
theorem d_Exact_expand_33 : decode b_Exact_expand 33 = .ok (.invokevirtual 26, 3) := by decide +kernel
theorem d_Exact_expand_36 : decode b_Exact_expand 36 = .ok (.aload_n 0, 1) := by decide +kernel
theorem d_Exact_expand_37 : decode b_Exact_expand 37 = .ok (.bipush 18, 2) := by decide +kernel
theorem d_Exact_expand_39 : decode b_Exact_expand 39 = .ok (.putfield 19, 3) := by decide +kernel
theorem d_Exact_expand_42 : decode b_Exact_expand 42 = .ok (.goto 22, 3) := by decide +kernel
theorem d_Exact_expand_45 : decode b_Exact_expand 45 = .ok (.aload_n 0, 1) := by decide +kernel
theorem d_Exact_expand_46 : decode b_Exact_expand 46 = .ok (.getfield 10, 3) := by decide +kernel
theorem d_Exact_expand_49 : decode b_Exact_expand 49 = .ok (.iload 4, 2) := by decide +kernel
theorem d_Exact_expand_51 : decode b_Exact_expand 51 = .ok (.ineg, 1) := by decide +kernel
theorem d_Exact_expand_52 : decode b_Exact_expand 52 = .ok (.invokevirtual 30, 3) := by decide +kernel
theorem d_Exact_expand_55 : decode b_Exact_expand 55 = .ok (.aload_n 0, 1) := by decide +kernel
theorem d_Exact_expand_56 : decode b_Exact_expand 56 = .ok (.bipush 18, 2) := by decide +kernel
theorem d_Exact_expand_58 : decode b_Exact_expand 58 = .ok (.iload 4, 2) := by decide +kernel
theorem d_Exact_expand_60 : decode b_Exact_expand 60 = .ok (.isub, 1) := by decide +kernel
theorem d_Exact_expand_61 : decode b_Exact_expand 61 = .ok (.putfield 19, 3) := by decide +kernel
theorem d_Exact_expand_64 : decode b_Exact_expand 64 = .ok (.aload_n 0, 1) := by decide +kernel
theorem d_Exact_expand_65 : decode b_Exact_expand 65 = .ok (.getfield 10, 3) := by decide +kernel
theorem d_Exact_expand_68 : decode b_Exact_expand 68 = .ok (.bipush 18, 2) := by decide +kernel
theorem d_Exact_expand_70 : decode b_Exact_expand 70 = .ok (.invokestatic 33, 3) := by decide +kernel
theorem d_Exact_expand_73 : decode b_Exact_expand 73 = .ok (.invokevirtual 39, 3) := by decide +kernel
theorem d_Exact_expand_76 : decode b_Exact_expand 76 = .ok (.aload_n 0, 1) := by decide +kernel
theorem d_Exact_expand_77 : decode b_Exact_expand 77 = .ok (.getfield 16, 3) := by decide +kernel
theorem d_Exact_expand_80 : decode b_Exact_expand 80 = .ok (.aload_n 0, 1) := by decide +kernel
theorem d_Exact_expand_81 : decode b_Exact_expand 81 = .ok (.getfield 10, 3) := by decide +kernel
theorem d_Exact_expand_84 : decode b_Exact_expand 84 = .ok (.ldc2_w 43, 3) := by decide +kernel
theorem d_Exact_expand_87 : decode b_Exact_expand 87 = .ok (.lload_n 1, 1) := by decide +kernel
theorem d_Exact_expand_88 : decode b_Exact_expand 88 = .ok (.lmul, 1) := by decide +kernel
theorem d_Exact_expand_89 : decode b_Exact_expand 89 = .ok (.invokevirtual 45, 3) := by decide +kernel
theorem d_Exact_expand_92 : decode b_Exact_expand 92 = .ok (.return_, 1) := by decide +kernel
theorem d_Exact_setToQuarters_0 : decode b_Exact_setToQuarters 0 = .ok (.aload_n 1, 1) := by decide +kernel
theorem d_Exact_setToQuarters_1 : decode b_Exact_setToQuarters 1 = .ok (.aload_n 0, 1) := by decide +kernel
theorem d_Exact_setToQuarters_2 : decode b_Exact_setToQuarters 2 = .ok (.getfield 10, 3) := by decide +kernel
theorem d_Exact_setToQuarters_5 : decode b_Exact_setToQuarters 5 = .ok (.lload_n 2, 1) := by decide +kernel
theorem d_Exact_setToQuarters_6 : decode b_Exact_setToQuarters 6 = .ok (.invokevirtual 45, 3) := by decide +kernel
theorem d_Exact_setToQuarters_9 : decode b_Exact_setToQuarters 9 = .ok (.return_, 1) := by decide +kernel
theorem d_Exact_scale_0 : decode b_Exact_scale 0 = .ok (.aload_n 0, 1) := by decide +kernel
theorem d_Exact_scale_1 : decode b_Exact_scale 1 = .ok (.getfield 19, 3) := by decide +kernel
theorem d_Exact_scale_4 : decode b_Exact_scale 4 = .ok (.ireturn, 1) := by decide +kernel
theorem d_Exact_isZero_0 : decode b_Exact_isZero 0 = .ok (.aload_n 0, 1) := by decide +kernel
theorem d_Exact_isZero_1 : decode b_Exact_isZero 1 = .ok (.getfield 16, 3) := by decide +kernel
theorem d_Exact_isZero_4 : decode b_Exact_isZero 4 = .ok (.invokevirtual 49, 3) := by decide +kernel
theorem d_Exact_isZero_7 : decode b_Exact_isZero 7 = .ok (.ireturn, 1) := by decide +kernel
theorem d_Exact_figureCount_0 : decode b_Exact_figureCount 0 = .ok (.aload_n 0, 1) := by decide +kernel
theorem d_Exact_figureCount_1 : decode b_Exact_figureCount 1 = .ok (.getfield 16, 3) := by decide +kernel
theorem d_Exact_figureCount_4 : decode b_Exact_figureCount 4 = .ok (.invokevirtual 53, 3) := by decide +kernel
theorem d_Exact_figureCount_7 : decode b_Exact_figureCount 7 = .ok (.ireturn, 1) := by decide +kernel
theorem d_Exact_figureAt_0 : decode b_Exact_figureAt 0 = .ok (.aload_n 0, 1) := by decide +kernel
theorem d_Exact_figureAt_1 : decode b_Exact_figureAt 1 = .ok (.getfield 16, 3) := by decide +kernel
theorem d_Exact_figureAt_4 : decode b_Exact_figureAt 4 = .ok (.iload_n 1, 1) := by decide +kernel
theorem d_Exact_figureAt_5 : decode b_Exact_figureAt 5 = .ok (.invokevirtual 57, 3) := by decide +kernel
theorem d_Exact_figureAt_8 : decode b_Exact_figureAt 8 = .ok (.ireturn, 1) := by decide +kernel
theorem d_Exact_hasAnyBelow_0 : decode b_Exact_hasAnyBelow 0 = .ok (.aload_n 0, 1) := by decide +kernel
theorem d_Exact_hasAnyBelow_1 : decode b_Exact_hasAnyBelow 1 = .ok (.getfield 16, 3) := by decide +kernel
theorem d_Exact_hasAnyBelow_4 : decode b_Exact_hasAnyBelow 4 = .ok (.iload_n 1, 1) := by decide +kernel
theorem d_Exact_hasAnyBelow_5 : decode b_Exact_hasAnyBelow 5 = .ok (.invokevirtual 61, 3) := by decide +kernel
theorem d_Exact_hasAnyBelow_8 : decode b_Exact_hasAnyBelow 8 = .ok (.ireturn, 1) := by decide +kernel
theorem d_Exact_from_0 : decode b_Exact_from 0 = .ok (.aload_n 0, 1) := by decide +kernel
theorem d_Exact_from_1 : decode b_Exact_from 1 = .ok (.getfield 16, 3) := by decide +kernel
theorem d_Exact_from_4 : decode b_Exact_from 4 = .ok (.iload_n 1, 1) := by decide +kernel
theorem d_Exact_from_5 : decode b_Exact_from 5 = .ok (.invokevirtual 65, 3) := by decide +kernel
theorem d_Exact_from_8 : decode b_Exact_from 8 = .ok (.lreturn, 1) := by decide +kernel
theorem d_Exact_goesUp_0 : decode b_Exact_goesUp 0 = .ok (.iload_n 2, 1) := by decide +kernel
theorem d_Exact_goesUp_1 : decode b_Exact_goesUp 1 = .ok (.ifCond .ne 5, 3) := by decide +kernel
theorem d_Exact_goesUp_4 : decode b_Exact_goesUp 4 = .ok (.iconst 0, 1) := by decide +kernel
theorem d_Exact_goesUp_5 : decode b_Exact_goesUp 5 = .ok (.ireturn, 1) := by decide +kernel
theorem d_Exact_goesUp_6 : decode b_Exact_goesUp 6 = .ok (.iload_n 2, 1) := by decide +kernel
theorem d_Exact_goesUp_7 : decode b_Exact_goesUp 7 = .ok (.iconst 1, 1) := by decide +kernel
theorem d_Exact_goesUp_8 : decode b_Exact_goesUp 8 = .ok (.if_icmp .ne 12, 3) := by decide +kernel
theorem d_Exact_goesUp_11 : decode b_Exact_goesUp 11 = .ok (.aload_n 0, 1) := by decide +kernel
theorem d_Exact_goesUp_12 : decode b_Exact_goesUp 12 = .ok (.getfield 16, 3) := by decide +kernel
theorem d_Exact_goesUp_15 : decode b_Exact_goesUp 15 = .ok (.iload_n 1, 1) := by decide +kernel
theorem d_Exact_goesUp_16 : decode b_Exact_goesUp 16 = .ok (.invokevirtual 61, 3) := by decide +kernel
theorem d_Exact_goesUp_19 : decode b_Exact_goesUp 19 = .ok (.ireturn, 1) := by decide +kernel
theorem d_Exact_goesUp_20 : decode b_Exact_goesUp 20 = .ok (.aload_n 0, 1) := by decide +kernel
theorem d_Exact_goesUp_21 : decode b_Exact_goesUp 21 = .ok (.getfield 16, 3) := by decide +kernel
theorem d_Exact_goesUp_24 : decode b_Exact_goesUp 24 = .ok (.iload_n 1, 1) := by decide +kernel
theorem d_Exact_goesUp_25 : decode b_Exact_goesUp 25 = .ok (.iconst 1, 1) := by decide +kernel
theorem d_Exact_goesUp_26 : decode b_Exact_goesUp 26 = .ok (.isub, 1) := by decide +kernel
theorem d_Exact_goesUp_27 : decode b_Exact_goesUp 27 = .ok (.invokevirtual 57, 3) := by decide +kernel
theorem d_Exact_goesUp_30 : decode b_Exact_goesUp 30 = .ok (.istore_n 3, 1) := by decide +kernel
theorem d_Exact_goesUp_31 : decode b_Exact_goesUp 31 = .ok (.iload_n 3, 1) := by decide +kernel
theorem d_Exact_goesUp_32 : decode b_Exact_goesUp 32 = .ok (.iconst 5, 1) := by decide +kernel
theorem d_Exact_goesUp_33 : decode b_Exact_goesUp 33 = .ok (.if_icmp .eq 14, 3) := by decide +kernel
theorem d_Exact_goesUp_36 : decode b_Exact_goesUp 36 = .ok (.iload_n 3, 1) := by decide +kernel
theorem d_Exact_goesUp_37 : decode b_Exact_goesUp 37 = .ok (.iconst 5, 1) := by decide +kernel
theorem d_Exact_goesUp_38 : decode b_Exact_goesUp 38 = .ok (.if_icmp .le 7, 3) := by decide +kernel
theorem d_Exact_goesUp_41 : decode b_Exact_goesUp 41 = .ok (.iconst 1, 1) := by decide +kernel
theorem d_Exact_goesUp_42 : decode b_Exact_goesUp 42 = .ok (.goto 4, 3) := by decide +kernel
theorem d_Exact_goesUp_45 : decode b_Exact_goesUp 45 = .ok (.iconst 0, 1) := by decide +kernel
theorem d_Exact_goesUp_46 : decode b_Exact_goesUp 46 = .ok (.ireturn, 1) := by decide +kernel
theorem d_Exact_goesUp_47 : decode b_Exact_goesUp 47 = .ok (.aload_n 0, 1) := by decide +kernel
theorem d_Exact_goesUp_48 : decode b_Exact_goesUp 48 = .ok (.getfield 16, 3) := by decide +kernel
theorem d_Exact_goesUp_51 : decode b_Exact_goesUp 51 = .ok (.iload_n 1, 1) := by decide +kernel
theorem d_Exact_goesUp_52 : decode b_Exact_goesUp 52 = .ok (.iconst 1, 1) := by decide +kernel
theorem d_Exact_goesUp_53 : decode b_Exact_goesUp 53 = .ok (.isub, 1) := by decide +kernel
theorem d_Exact_goesUp_54 : decode b_Exact_goesUp 54 = .ok (.invokevirtual 61, 3) := by decide +kernel
theorem d_Exact_goesUp_57 : decode b_Exact_goesUp 57 = .ok (.ifCond .ne 7, 3) := by decide +kernel
theorem d_Exact_goesUp_60 : decode b_Exact_goesUp 60 = .ok (.iconst 1, 1) := by decide +kernel
theorem d_Exact_goesUp_61 : decode b_Exact_goesUp 61 = .ok (.goto 4, 3) := by decide +kernel
theorem d_Exact_goesUp_64 : decode b_Exact_goesUp 64 = .ok (.iconst 0, 1) := by decide +kernel
theorem d_Exact_goesUp_65 : decode b_Exact_goesUp 65 = .ok (.istore 4, 2) := by decide +kernel
theorem d_Exact_goesUp_67 : decode b_Exact_goesUp 67 = .ok (.iload_n 2, 1) := by decide +kernel
theorem d_Exact_goesUp_68 : decode b_Exact_goesUp 68 = .ok (.iconst 2, 1) := by decide +kernel
theorem d_Exact_goesUp_69 : decode b_Exact_goesUp 69 = .ok (.if_icmp .eq 22, 3) := by decide +kernel
theorem d_Exact_goesUp_72 : decode b_Exact_goesUp 72 = .ok (.iload 4, 2) := by decide +kernel
theorem d_Exact_goesUp_74 : decode b_Exact_goesUp 74 = .ok (.ifCond .eq 17, 3) := by decide +kernel
theorem d_Exact_goesUp_77 : decode b_Exact_goesUp 77 = .ok (.aload_n 0, 1) := by decide +kernel
theorem d_Exact_goesUp_78 : decode b_Exact_goesUp 78 = .ok (.getfield 16, 3) := by decide +kernel
theorem d_Exact_goesUp_81 : decode b_Exact_goesUp 81 = .ok (.iload_n 1, 1) := by decide +kernel
theorem d_Exact_goesUp_82 : decode b_Exact_goesUp 82 = .ok (.invokevirtual 57, 3) := by decide +kernel
theorem d_Exact_goesUp_85 : decode b_Exact_goesUp 85 = .ok (.iconst 2, 1) := by decide +kernel
theorem d_Exact_goesUp_86 : decode b_Exact_goesUp 86 = .ok (.irem, 1) := by decide +kernel
theorem d_Exact_goesUp_87 : decode b_Exact_goesUp 87 = .ok (.iconst 1, 1) := by decide +kernel
theorem d_Exact_goesUp_88 : decode b_Exact_goesUp 88 = .ok (.if_icmp .ne 7, 3) := by decide +kernel
theorem d_Exact_goesUp_91 : decode b_Exact_goesUp 91 = .ok (.iconst 1, 1) := by decide +kernel
theorem d_Exact_goesUp_92 : decode b_Exact_goesUp 92 = .ok (.goto 4, 3) := by decide +kernel
theorem d_Exact_goesUp_95 : decode b_Exact_goesUp 95 = .ok (.iconst 0, 1) := by decide +kernel
theorem d_Exact_goesUp_96 : decode b_Exact_goesUp 96 = .ok (.ireturn, 1) := by decide +kernel
theorem d_Exact_roundAt_0 : decode b_Exact_roundAt 0 = .ok (.iload_n 1, 1) := by decide +kernel
theorem d_Exact_roundAt_1 : decode b_Exact_roundAt 1 = .ok (.ifCond .le 20, 3) := by decide +kernel
theorem d_Exact_roundAt_4 : decode b_Exact_roundAt 4 = .ok (.aload_n 0, 1) := by decide +kernel
theorem d_Exact_roundAt_5 : decode b_Exact_roundAt 5 = .ok (.iload_n 1, 1) := by decide +kernel
theorem d_Exact_roundAt_6 : decode b_Exact_roundAt 6 = .ok (.iload_n 2, 1) := by decide +kernel
theorem d_Exact_roundAt_7 : decode b_Exact_roundAt 7 = .ok (.invokevirtual 68, 3) := by decide +kernel
theorem d_Exact_roundAt_10 : decode b_Exact_roundAt 10 = .ok (.ifCond .eq 11, 3) := by decide +kernel
theorem d_Exact_roundAt_13 : decode b_Exact_roundAt 13 = .ok (.aload_n 0, 1) := by decide +kernel
theorem d_Exact_roundAt_14 : decode b_Exact_roundAt 14 = .ok (.getfield 16, 3) := by decide +kernel
theorem d_Exact_roundAt_17 : decode b_Exact_roundAt 17 = .ok (.iload_n 1, 1) := by decide +kernel
theorem d_Exact_roundAt_18 : decode b_Exact_roundAt 18 = .ok (.invokevirtual 72, 3) := by decide +kernel
theorem d_Exact_roundAt_21 : decode b_Exact_roundAt 21 = .ok (.return_, 1) := by decide +kernel
abbrev Qc_Exact_init (D : va_G) (h0 : Nat) (z0 : Int) (A : Nat → Prop) : Array Value → State → Outcome → State → Prop := va_Qv (fun u : Nat × Nat × Nat × Nat × ClassId × ClassId => True) (fun (u : Nat × Nat × Nat × Nat × ClassId × ClassId) t9 => cpost D A [(h0, .inr (3, [.ref (u.1), .ref (u.2.2.1), .int (iZ (0))])), ((u.1), .inr (2, [.ref (u.2.1), .int (iZ (((0 : Nat) : Int)))])), ((u.2.1), .inl ((u.2.2.2.2.1), 124, .inr (.inl ((fun _ => 0))))), ((u.2.2.1), .inr (2, [.ref (u.2.2.2.1), .int (iZ (((0 : Nat) : Int)))])), ((u.2.2.2.1), .inl ((u.2.2.2.2.2), 124, .inr (.inl ((fun _ => 0)))))] [((u.2.2.2.2.1), .long), ((u.2.2.2.2.2), .long)] t9) A
set_option maxHeartbeats 4000000 in
set_option maxRecDepth 100000 in
theorem c_Exact_init (l : Launch) (D : va_G) (Z : Nat → Nat) (hz9 : Nat) (h0 : Nat) (z0 : Int)  : Met l y_Exact_init (.code y_Exact_init b_Exact_init 1 none :: gT) ({ frames := 2, cells := 4, slots := 252, locals := 32 } : Room) (va_Pc [.ref h0] (cpre D Z [(h0, .inr (3, [.null, .null, .int (iZ (z0))]))] [] hz9)) (Qc_Exact_init D h0 z0 (va_A [(h0, .inr (3, [.null, .null, .int (iZ (z0))]))] hz9)) 4 252 (va_A [(h0, .inr (3, [.null, .null, .int (iZ (z0))]))] hz9) := by
  refine met_go (Qf := Qc_Exact_init D h0 z0) (ff := fun A => A) (by decide) ?_
  intro p e s m below meth c A C0 hin hsz9 hA hE hK hP hD
  obtain ⟨hx, hb, hml, hown, hts, hr, hlocks⟩ := id C0
  have hS : va_S A s.heap s.heap [] := va_S.rf
  have hl := lv_entry [.ref h0] (n := 1) (Nat.le_of_ble_eq_true rfl)
  rw [lg_entry_eq]
  generalize (lg_sl [.ref h0] ++ List.replicate (1 - (lg_sl [.ref h0]).length) Slot.unset).toArray = ls at hl ⊢
  have hl : lv_has ls 1 [(0, .ref h0)] := hl
  refine lv_aload_n hx hb d_Exact_init_0 rfl (lv_at hl 0 rfl) ?_
  refine W.objInit hx hb hown (hts _ kw_41_) (hts _ kw_20_) (hts _ q_objectInit) rfl (by rw [hml]; exact hl.1) rfl d_Exact_init_1 (Nat.le_of_ble_eq_true rfl) (Nat.le_of_ble_eq_true rfl) ?_
  refine W.eq (g2 := F0 m 4 ls []) rfl ?_
  refine lv_aload_n hx hb d_Exact_init_4 rfl (lv_at hl 0 rfl) ?_
  refine va_new (ci := 2) (fs := [.null, .int (iZ (0))]) (C := R_Big) (T := F_Big) (N := 2) hx hb hts i_Big t_Big t_Big_ok hown (hts _ kw_42_) (hts _ kw_43_) (hts _ kw_24_) hK hP hD hS hA rfl (fun j hj => by rcases (show j = 0 ∨ j = 1 by omega) with rfl | rfl <;> rfl) (Nat.le_of_ble_eq_true rfl) (Nat.le_of_ble_eq_true rfl) d_Exact_init_5 (fun q5 H hP hD hS => ?_)
  refine W.widen (k := 1) (n := 2) (by decide) (by decide) ?_
  have hP : va_P D classes [(h0, .inr (3, [.null, .null, .int (iZ (z0))])), (q5, .inr (2, [.null, .int (iZ (0))]))] H := hP
  have hD : va_D A [(h0, .inr (3, [.null, .null, .int (iZ (z0))])), (q5, .inr (2, [.null, .int (iZ (0))]))] := hD
  refine lv_dup hx hb d_Exact_init_8 rfl ?_
  refine kw_v (wr := [(h0, .inr (3, [.null, .null, .int (iZ (z0))]))]) (tr := []) (kr_I (As := []) (rest := [.ref q5, .ref h0]) C0 (c_Big_init l D Z _ q5 0 ) q_y_Big_init kw_44_ kw_45_ kw_24_ rfl hd_y_Big_init rfl rfl ⟨Nat.le_of_ble_eq_true rfl, Nat.le_of_ble_eq_true rfl⟩ (hP.sub (ws' := [(q5, .inr (2, [.null, .int (iZ (0))]))]) [1] rfl) (hD.sub (ws' := [(q5, .inr (2, [.null, .int (iZ (0))]))]) [1] (by decide) rfl) (hK.sub (tys' := []) [] rfl) hE hS (va_free (wc := [(q5, .inr (2, [.null, .int (iZ (0))]))]) hD hS hA [1] rfl) rfl hl.1 rfl (Nat.le_of_ble_eq_true rfl) d_Exact_init_9 ⟨Nat.le_of_ble_eq_true rfl, Nat.le_of_ble_eq_true rfl⟩) hP hD hK hS hA [1] [0] [] rfl rfl (by decide) (by decide) rfl (fun u H locs hpost hP hD hK hS => ?_)
  obtain ⟨la, cAa⟩ := u
  refine W.widen (k := 2) (n := 126) (by decide) (by decide) ?_
  have hP : va_P D classes [(h0, .inr (3, [.null, .null, .int (iZ (z0))])), (q5, .inr (2, [.ref la, .int (iZ (0))])), (la, .inl (cAa, 124, .inr (.inl ((fun _ => 0)))))] H := hP
  have hD : va_D A [(h0, .inr (3, [.null, .null, .int (iZ (z0))])), (q5, .inr (2, [.ref la, .int (iZ (0))])), (la, .inl (cAa, 124, .inr (.inl ((fun _ => 0)))))] := hD
  have hK : va_K D classes [(cAa, .long)] s := hK
  refine va_putF (D := D) (ci := 3) (v := .ref q5) (ty := .object "FloatWriter$Big") (C := R_Exact) (T := F_Exact) (N := 3) hx hb hts i_Exact t_Exact t_Exact_ok n_Exact hown hK hP hD hS 0 rfl rfl 0 (by decide) (hts _ kw_46_) (fun _ h9 => h9) rfl hin rfl (by decide +kernel) rfl rfl (Nat.le_of_ble_eq_true rfl) d_Exact_init_12 (fun H locs hP hD hS => ?_)
  have hP : va_P D classes [(h0, .inr (3, [.ref q5, .null, .int (iZ (z0))])), (q5, .inr (2, [.ref la, .int (iZ (0))])), (la, .inl (cAa, 124, .inr (.inl ((fun _ => 0)))))] H := hP
  have hD : va_D A [(h0, .inr (3, [.ref q5, .null, .int (iZ (z0))])), (q5, .inr (2, [.ref la, .int (iZ (0))])), (la, .inl (cAa, 124, .inr (.inl ((fun _ => 0)))))] := hD
  refine lv_aload_n hx hb d_Exact_init_15 rfl (lv_at hl 0 rfl) ?_
  refine va_new (ci := 2) (fs := [.null, .int (iZ (0))]) (C := R_Big) (T := F_Big) (N := 2) hx hb hts i_Big t_Big t_Big_ok hown (hts _ kw_42_) (hts _ kw_43_) (hts _ kw_24_) hK hP hD hS hA rfl (fun j hj => by rcases (show j = 0 ∨ j = 1 by omega) with rfl | rfl <;> rfl) (Nat.le_of_ble_eq_true rfl) (Nat.le_of_ble_eq_true rfl) d_Exact_init_16 (fun q16 H hP hD hS => ?_)
  refine W.widen (k := 3) (n := 128) (by decide) (by decide) ?_
  have hP : va_P D classes [(h0, .inr (3, [.ref q5, .null, .int (iZ (z0))])), (q5, .inr (2, [.ref la, .int (iZ (0))])), (la, .inl (cAa, 124, .inr (.inl ((fun _ => 0))))), (q16, .inr (2, [.null, .int (iZ (0))]))] H := hP
  have hD : va_D A [(h0, .inr (3, [.ref q5, .null, .int (iZ (z0))])), (q5, .inr (2, [.ref la, .int (iZ (0))])), (la, .inl (cAa, 124, .inr (.inl ((fun _ => 0))))), (q16, .inr (2, [.null, .int (iZ (0))]))] := hD
  refine lv_dup hx hb d_Exact_init_19 rfl ?_
  refine kw_v (wr := [(h0, .inr (3, [.ref q5, .null, .int (iZ (z0))])), (q5, .inr (2, [.ref la, .int (iZ (0))])), (la, .inl (cAa, 124, .inr (.inl ((fun _ => 0)))))]) (tr := [(cAa, .long)]) (kr_I (As := []) (rest := [.ref q16, .ref h0]) C0 (c_Big_init l D Z _ q16 0 ) q_y_Big_init kw_44_ kw_45_ kw_24_ rfl hd_y_Big_init rfl rfl ⟨Nat.le_of_ble_eq_true rfl, Nat.le_of_ble_eq_true rfl⟩ (hP.sub (ws' := [(q16, .inr (2, [.null, .int (iZ (0))]))]) [3] rfl) (hD.sub (ws' := [(q16, .inr (2, [.null, .int (iZ (0))]))]) [3] (by decide) rfl) (hK.sub (tys' := []) [] rfl) hE hS (va_free (wc := [(q16, .inr (2, [.null, .int (iZ (0))]))]) hD hS hA [3] rfl) rfl hl.1 rfl (Nat.le_of_ble_eq_true rfl) d_Exact_init_20 ⟨Nat.le_of_ble_eq_true rfl, Nat.le_of_ble_eq_true rfl⟩) hP hD hK hS hA [3] [0, 1, 2] [0] rfl rfl (by decide) (by decide) rfl (fun u H locs hpost hP hD hK hS => ?_)
  obtain ⟨lz, cAs⟩ := u
  refine W.widen (k := 4) (n := 252) (by decide) (by decide) ?_
  have hP : va_P D classes [(h0, .inr (3, [.ref q5, .null, .int (iZ (z0))])), (q5, .inr (2, [.ref la, .int (iZ (0))])), (la, .inl (cAa, 124, .inr (.inl ((fun _ => 0))))), (q16, .inr (2, [.ref lz, .int (iZ (0))])), (lz, .inl (cAs, 124, .inr (.inl ((fun _ => 0)))))] H := hP
  have hD : va_D A [(h0, .inr (3, [.ref q5, .null, .int (iZ (z0))])), (q5, .inr (2, [.ref la, .int (iZ (0))])), (la, .inl (cAa, 124, .inr (.inl ((fun _ => 0))))), (q16, .inr (2, [.ref lz, .int (iZ (0))])), (lz, .inl (cAs, 124, .inr (.inl ((fun _ => 0)))))] := hD
  have hK : va_K D classes [(cAa, .long), (cAs, .long)] s := hK
  refine va_putF (D := D) (ci := 3) (v := .ref q16) (ty := .object "FloatWriter$Big") (C := R_Exact) (T := F_Exact) (N := 3) hx hb hts i_Exact t_Exact t_Exact_ok n_Exact hown hK hP hD hS 0 rfl rfl 1 (by decide) (hts _ kw_47_) (fun _ h9 => h9) rfl hin rfl (by decide +kernel) rfl rfl (Nat.le_of_ble_eq_true rfl) d_Exact_init_23 (fun H locs hP hD hS => ?_)
  have hP : va_P D classes [(h0, .inr (3, [.ref q5, .ref q16, .int (iZ (z0))])), (q5, .inr (2, [.ref la, .int (iZ (0))])), (la, .inl (cAa, 124, .inr (.inl ((fun _ => 0))))), (q16, .inr (2, [.ref lz, .int (iZ (0))])), (lz, .inl (cAs, 124, .inr (.inl ((fun _ => 0)))))] H := hP
  have hD : va_D A [(h0, .inr (3, [.ref q5, .ref q16, .int (iZ (z0))])), (q5, .inr (2, [.ref la, .int (iZ (0))])), (la, .inl (cAa, 124, .inr (.inl ((fun _ => 0))))), (q16, .inr (2, [.ref lz, .int (iZ (0))])), (lz, .inl (cAs, 124, .inr (.inl ((fun _ => 0)))))] := hD
  refine lv_aload_n hx hb d_Exact_init_26 rfl (lv_at hl 0 rfl) ?_
  refine lv_iconst (v := iZ (0)) hx hb d_Exact_init_27 rfl ?_
  refine va_put (D := D) (ci := 3) (v := .int (iZ (0))) (ty := .int) (C := R_Exact) (T := F_Exact) (N := 3) hx hb hts i_Exact t_Exact t_Exact_ok n_Exact hown hK hP hD hS 0 rfl rfl 2 (by decide) (hts _ kw_48_) (fun _ h9 => h9) rfl (by decide +kernel) rfl rfl (Nat.le_of_ble_eq_true rfl) d_Exact_init_28 (fun H locs hP hD hS => ?_)
  have hP : va_P D classes [(h0, .inr (3, [.ref q5, .ref q16, .int (iZ (0))])), (q5, .inr (2, [.ref la, .int (iZ (0))])), (la, .inl (cAa, 124, .inr (.inl ((fun _ => 0))))), (q16, .inr (2, [.ref lz, .int (iZ (0))])), (lz, .inl (cAs, 124, .inr (.inl ((fun _ => 0)))))] H := hP
  have hD : va_D A [(h0, .inr (3, [.ref q5, .ref q16, .int (iZ (0))])), (q5, .inr (2, [.ref la, .int (iZ (0))])), (la, .inl (cAa, 124, .inr (.inl ((fun _ => 0))))), (q16, .inr (2, [.ref lz, .int (iZ (0))])), (lz, .inl (cAs, 124, .inr (.inl ((fun _ => 0)))))] := hD
  exact ew_v (q5, la, q16, lz, cAa, cAs) hx hb hr hlocks d_Exact_init_31 (trivial) (hP.sub (ws' := [(h0, .inr (3, [.ref q5, .ref q16, .int (iZ (0))])), (q5, .inr (2, [.ref la, .int (iZ (((0 : Nat) : Int)))])), (la, .inl (cAa, 124, .inr (.inl ((fun _ => 0))))), (q16, .inr (2, [.ref lz, .int (iZ (((0 : Nat) : Int)))])), (lz, .inl (cAs, 124, .inr (.inl ((fun _ => 0)))))]) [0, 1, 2, 3, 4] rfl) (hD.sub (ws' := [(h0, .inr (3, [.ref q5, .ref q16, .int (iZ (0))])), (q5, .inr (2, [.ref la, .int (iZ (((0 : Nat) : Int)))])), (la, .inl (cAa, 124, .inr (.inl ((fun _ => 0))))), (q16, .inr (2, [.ref lz, .int (iZ (((0 : Nat) : Int)))])), (lz, .inl (cAs, 124, .inr (.inl ((fun _ => 0)))))]) [0, 1, 2, 3, 4] (by decide) rfl) (hK.sub (tys' := [(cAa, .long), (cAs, .long)]) [0, 1] rfl) hS (Nat.le_of_ble_eq_true rfl) (Nat.le_of_ble_eq_true rfl)
abbrev Qc_Exact_expand (D : va_G) (h0 : Nat) (qa : Nat) (la : Nat) (qs : Nat) (lz : Nat) (cAa : ClassId) (cAs : ClassId) (fa : Nat → Int64) (na : Nat) (fs : Nat → Int64) (ns : Nat) (sc : Int) (sg : Nat) (z : Int) (A : Nat → Prop) : Array Value → State → Outcome → State → Prop := va_Qv (fun u : (Nat → Int64) × Nat × (Nat → Int64) × Nat => BigIs (u.1) (u.2.1) (exQ sg z) ∧ BigIs (u.2.2.1) (u.2.2.2) (exQ sg z * (4 * sg))) (fun (u : (Nat → Int64) × Nat × (Nat → Int64) × Nat) t9 => cpost D A [(h0, .inr (3, [.ref qa, .ref qs, .int (iZ (exSc sg z))])), (qa, .inr (2, [.ref la, .int (iZ ((((u.2.1) : Nat) : Int)))])), (la, .inl (cAa, 124, .inr (.inl ((u.1))))), (qs, .inr (2, [.ref lz, .int (iZ ((((u.2.2.2) : Nat) : Int)))])), (lz, .inl (cAs, 124, .inr (.inl ((u.2.2.1)))))] [(cAa, .long), (cAs, .long)] t9) A
set_option maxHeartbeats 4000000 in
set_option maxRecDepth 100000 in
theorem c_Exact_expand (l : Launch) (D : va_G) (Z : Nat → Nat) (hz9 : Nat) (h0 : Nat) (qa : Nat) (la : Nat) (qs : Nat) (lz : Nat) (cAa : ClassId) (cAs : ClassId) (fa : Nat → Int64) (na : Nat) (fs : Nat → Int64) (ns : Nat) (sc : Int) (sg : Nat) (z : Int) (hsg : sg < 9007199254740992) (hz : -1074 ≤ z ∧ z ≤ 971) : Met l y_Exact_expand (.code y_Exact_expand b_Exact_expand 5 none :: gT) ({ frames := 3, cells := 0, slots := 0, locals := 81 } : Room) (va_Pc [.ref h0, .long (lN (sg)), .int (iZ (z))] (cpre D Z [(h0, .inr (3, [.ref qa, .ref qs, .int (iZ (sc))])), (qa, .inr (2, [.ref la, .int (iZ (((na : Nat) : Int)))])), (la, .inl (cAa, 124, .inr (.inl fa))), (qs, .inr (2, [.ref lz, .int (iZ (((ns : Nat) : Int)))])), (lz, .inl (cAs, 124, .inr (.inl fs)))] [(cAa, .long), (cAs, .long)] hz9)) (Qc_Exact_expand D h0 qa la qs lz cAa cAs fa na fs ns sc sg z (va_A [(h0, .inr (3, [.ref qa, .ref qs, .int (iZ (sc))])), (qa, .inr (2, [.ref la, .int (iZ (((na : Nat) : Int)))])), (la, .inl (cAa, 124, .inr (.inl fa))), (qs, .inr (2, [.ref lz, .int (iZ (((ns : Nat) : Int)))])), (lz, .inl (cAs, 124, .inr (.inl fs)))] hz9)) 0 0 (va_A [(h0, .inr (3, [.ref qa, .ref qs, .int (iZ (sc))])), (qa, .inr (2, [.ref la, .int (iZ (((na : Nat) : Int)))])), (la, .inl (cAa, 124, .inr (.inl fa))), (qs, .inr (2, [.ref lz, .int (iZ (((ns : Nat) : Int)))])), (lz, .inl (cAs, 124, .inr (.inl fs)))] hz9) := by
  refine met_go (Qf := Qc_Exact_expand D h0 qa la qs lz cAa cAs fa na fs ns sc sg z) (ff := fun A => A) (by decide) ?_
  intro p e s m below meth c A C0 hin hsz9 hA hE hK hP hD
  obtain ⟨hx, hb, hml, hown, hts, hr, hlocks⟩ := id C0
  have hS : va_S A s.heap s.heap [] := va_S.rf
  have hl := lv_entry [.ref h0, .long (lN (sg)), .int (iZ (z))] (n := 5) (Nat.le_of_ble_eq_true rfl)
  rw [lg_entry_eq]
  generalize (lg_sl [.ref h0, .long (lN (sg)), .int (iZ (z))] ++ List.replicate (5 - (lg_sl [.ref h0, .long (lN (sg)), .int (iZ (z))]).length) Slot.unset).toArray = ls at hl ⊢
  have hl : lv_has ls 5 [(0, .ref h0), (1, .long (lN (sg))), (3, .int (iZ (z)))] := hl
  have hT := exT_in (sg := sg) hz
  refine lv_lload_n hx hb d_Exact_expand_0 rfl (lv_at hl 1 rfl) ?_
  refine lv_lconst (v := lN 0) hx hb d_Exact_expand_1 rfl ?_
  refine nv_lcmp_ne (tgt := 10) hx hb d_Exact_expand_2 d_Exact_expand_3 (by decide) (by omega) (by decide) (fun c2 => ?_) (fun c2 => ?_)
  · refine lv_iload_n hx hb d_Exact_expand_10 rfl (lv_at hl 2 rfl) ?_
    refine lv_iconst (v := iZ (2)) hx hb d_Exact_expand_11 rfl ?_
    refine zv_isub hx hb d_Exact_expand_12 ?_
    refine zv_top (y := iZ (exT sg z)) (congrArg iZ (by unfold exT; rw [if_neg c2])) ?_
    refine lv_istore (lv' := [(4, .int (iZ (exT sg z))), (0, .ref h0), (1, .long (lN (sg))), (3, .int (iZ (z)))]) hx hb d_Exact_expand_13 hl (by decide) rfl (fun ls hl => ?_)
    refine lv_aload_n hx hb d_Exact_expand_15 rfl (lv_at hl 1 rfl) ?_
    refine va_get (D := D) (ci := 3) (v := .ref qa) (C := R_Exact) (T := F_Exact) (N := 3) hx hb hts i_Exact hown hK hP 0 rfl rfl 0 (by decide) (hts _ kw_46_) (fun _ h9 => h9) rfl d_Exact_expand_16 ?_
    refine kw_v (wr := [(h0, .inr (3, [.ref qa, .ref qs, .int (iZ (sc))])), (qs, .inr (2, [.ref lz, .int (iZ (((ns : Nat) : Int)))])), (lz, .inl (cAs, 124, .inr (.inl fs)))]) (tr := [(cAs, .long)]) (kr_V (C0 := R_Big) (ci := 2) (i0 := 0) (As := []) (rest := []) C0 (c_Big_setToOne l D Z _ qa la cAa fa na ) q_y_Big_setToOne kw_49_ kw_50_ kw_51_ kw_24_ hd_y_Big_setToOne rfl rfl ⟨Nat.le_of_ble_eq_true rfl, Nat.le_of_ble_eq_true rfl⟩ (hP.sub (ws' := [(qa, .inr (2, [.ref la, .int (iZ (((na : Nat) : Int)))])), (la, .inl (cAa, 124, .inr (.inl fa)))]) [1, 2] rfl) (hD.sub (ws' := [(qa, .inr (2, [.ref la, .int (iZ (((na : Nat) : Int)))])), (la, .inl (cAa, 124, .inr (.inl fa)))]) [1, 2] (by decide) rfl) (hK.sub (tys' := [(cAa, .long)]) [0] rfl) hE hS (va_free (wc := [(qa, .inr (2, [.ref la, .int (iZ (((na : Nat) : Int)))])), (la, .inl (cAa, 124, .inr (.inl fa)))]) hD hS hA [1, 2] rfl) rfl rfl rfl hl.1 rfl (Nat.le_of_ble_eq_true rfl) d_Exact_expand_19 ⟨Nat.le_of_ble_eq_true rfl, Nat.le_of_ble_eq_true rfl⟩) hP hD hK hS hA [1, 2] [0, 3, 4] [1] rfl rfl (by decide) (by decide) rfl (fun u H locs hpost hP hD hK hS => ?_)
    have hP : va_P D classes [(h0, .inr (3, [.ref qa, .ref qs, .int (iZ (sc))])), (qs, .inr (2, [.ref lz, .int (iZ (((ns : Nat) : Int)))])), (lz, .inl (cAs, 124, .inr (.inl fs))), (qa, .inr (2, [.ref la, .int (iZ (((1 : Nat) : Int)))])), (la, .inl (cAa, 124, .inr (.inl (vp_updL fa 0 (lN 1)))))] H := hP
    have hD : va_D A [(h0, .inr (3, [.ref qa, .ref qs, .int (iZ (sc))])), (qs, .inr (2, [.ref lz, .int (iZ (((ns : Nat) : Int)))])), (lz, .inl (cAs, 124, .inr (.inl fs))), (qa, .inr (2, [.ref la, .int (iZ (((1 : Nat) : Int)))])), (la, .inl (cAa, 124, .inr (.inl (vp_updL fa 0 (lN 1)))))] := hD
    have hK : va_K D classes [(cAs, .long), (cAa, .long)] s := hK
    refine lv_iload hx hb d_Exact_expand_22 (lv_at hl 0 rfl) ?_
    refine zv_if_lt (tgt := 45) hx hb d_Exact_expand_24 (by decide) (by omega) (fun c24 => ?_) (fun c24 => ?_)
    · obtain ⟨w, hw0⟩ : ∃ w : Nat, (w : Int) = - exT sg z := ⟨(- exT sg z).toNat, by omega⟩
      have eQ : exQ sg z = 1 * 5 ^ w * 10 ^ 18 := by unfold exQ; rw [if_neg (by omega), Nat.one_mul]; congr 2; omega
      have hw1 : 1 * 5 ^ w < 1000000000 ^ 124 := Nat.lt_of_le_of_lt (Nat.le_mul_of_pos_right _ (show 0 < 10 ^ 18 by decide)) (by rw [← eQ]; exact Nat.lt_of_le_of_lt (Nat.le_of_eq (Nat.mul_one _).symm) (exQ_room hz (by decide)))
      refine lv_aload_n hx hb d_Exact_expand_45 rfl (lv_at hl 1 rfl) ?_
      refine va_get (D := D) (ci := 3) (v := .ref qa) (C := R_Exact) (T := F_Exact) (N := 3) hx hb hts i_Exact hown hK hP 0 rfl rfl 0 (by decide) (hts _ kw_46_) (fun _ h9 => h9) rfl d_Exact_expand_46 ?_
      refine lv_iload hx hb d_Exact_expand_49 (lv_at hl 0 rfl) ?_
      refine zv_ineg hx hb d_Exact_expand_51 ?_
      refine zv_top (y := iZ (((w : Nat) : Int))) (congrArg iZ hw0.symm) ?_
      refine kw_v (wr := [(h0, .inr (3, [.ref qa, .ref qs, .int (iZ (sc))])), (qs, .inr (2, [.ref lz, .int (iZ (((ns : Nat) : Int)))])), (lz, .inl (cAs, 124, .inr (.inl fs)))]) (tr := [(cAs, .long)]) (kr_V (C0 := R_Big) (ci := 2) (i0 := 0) (As := [.int (iZ (((w : Nat) : Int)))]) (rest := []) C0 (c_Big_multiplyByFives l D Z _ qa la cAa (vp_updL fa 0 (lN 1)) 1 1 w (one_big _) (by omega) (by assumption)) q_y_Big_multiplyByFives kw_52_ kw_53_ kw_54_ kw_24_ hd_y_Big_multiplyByFives rfl rfl ⟨Nat.le_of_ble_eq_true rfl, Nat.le_of_ble_eq_true rfl⟩ (hP.sub (ws' := [(qa, .inr (2, [.ref la, .int (iZ (((1 : Nat) : Int)))])), (la, .inl (cAa, 124, .inr (.inl ((vp_updL fa 0 (lN 1))))))]) [3, 4] rfl) (hD.sub (ws' := [(qa, .inr (2, [.ref la, .int (iZ (((1 : Nat) : Int)))])), (la, .inl (cAa, 124, .inr (.inl ((vp_updL fa 0 (lN 1))))))]) [3, 4] (by decide) rfl) (hK.sub (tys' := [(cAa, .long)]) [1] rfl) hE hS (va_free (wc := [(qa, .inr (2, [.ref la, .int (iZ (((1 : Nat) : Int)))])), (la, .inl (cAa, 124, .inr (.inl ((vp_updL fa 0 (lN 1))))))]) hD hS hA [3, 4] rfl) rfl rfl rfl hl.1 rfl (Nat.le_of_ble_eq_true rfl) d_Exact_expand_52 ⟨Nat.le_of_ble_eq_true rfl, Nat.le_of_ble_eq_true rfl⟩) hP hD hK hS hA [3, 4] [0, 1, 2] [0] rfl rfl (by decide) (by decide) rfl (fun u H locs hpost hP hD hK hS => ?_)
      obtain ⟨fq, nq⟩ := u
      have hq33 : BigIs fq nq (1 * 5 ^ w) := hpost
      have hP : va_P D classes [(h0, .inr (3, [.ref qa, .ref qs, .int (iZ (sc))])), (qs, .inr (2, [.ref lz, .int (iZ (((ns : Nat) : Int)))])), (lz, .inl (cAs, 124, .inr (.inl fs))), (qa, .inr (2, [.ref la, .int (iZ (((nq : Nat) : Int)))])), (la, .inl (cAa, 124, .inr (.inl fq)))] H := hP
      have hD : va_D A [(h0, .inr (3, [.ref qa, .ref qs, .int (iZ (sc))])), (qs, .inr (2, [.ref lz, .int (iZ (((ns : Nat) : Int)))])), (lz, .inl (cAs, 124, .inr (.inl fs))), (qa, .inr (2, [.ref la, .int (iZ (((nq : Nat) : Int)))])), (la, .inl (cAa, 124, .inr (.inl fq)))] := hD
      have hK : va_K D classes [(cAs, .long), (cAa, .long)] s := hK
      refine lv_aload_n hx hb d_Exact_expand_55 rfl (lv_at hl 1 rfl) ?_
      refine lv_bipush (v := iZ (18)) hx hb d_Exact_expand_56 (by decide) ?_
      refine lv_iload hx hb d_Exact_expand_58 (lv_at hl 0 rfl) ?_
      refine zv_isub hx hb d_Exact_expand_60 ?_
      refine zv_top (y := iZ (exSc sg z)) (congrArg iZ (by unfold exSc; rw [if_neg (by omega)])) ?_
      refine va_put (D := D) (ci := 3) (v := .int (iZ (exSc sg z))) (ty := .int) (C := R_Exact) (T := F_Exact) (N := 3) hx hb hts i_Exact t_Exact t_Exact_ok n_Exact hown hK hP hD hS 0 rfl rfl 2 (by decide) (hts _ kw_48_) (fun _ h9 => h9) rfl (by decide +kernel) rfl rfl (Nat.le_of_ble_eq_true rfl) d_Exact_expand_61 (fun H locs hP hD hS => ?_)
      have hP : va_P D classes [(h0, .inr (3, [.ref qa, .ref qs, .int (iZ (exSc sg z))])), (qs, .inr (2, [.ref lz, .int (iZ (((ns : Nat) : Int)))])), (lz, .inl (cAs, 124, .inr (.inl fs))), (qa, .inr (2, [.ref la, .int (iZ (((nq : Nat) : Int)))])), (la, .inl (cAa, 124, .inr (.inl fq)))] H := hP
      have hD : va_D A [(h0, .inr (3, [.ref qa, .ref qs, .int (iZ (exSc sg z))])), (qs, .inr (2, [.ref lz, .int (iZ (((ns : Nat) : Int)))])), (lz, .inl (cAs, 124, .inr (.inl fs))), (qa, .inr (2, [.ref la, .int (iZ (((nq : Nat) : Int)))])), (la, .inl (cAa, 124, .inr (.inl fq)))] := hD
      refine lv_aload_n hx hb d_Exact_expand_64 rfl (lv_at hl 1 rfl) ?_
      refine va_get (D := D) (ci := 3) (v := .ref qa) (C := R_Exact) (T := F_Exact) (N := 3) hx hb hts i_Exact hown hK hP 0 rfl rfl 0 (by decide) (hts _ kw_46_) (fun _ h9 => h9) rfl d_Exact_expand_65 ?_
      refine lv_bipush (v := iZ (18)) hx hb d_Exact_expand_68 (by decide) ?_
      refine zv_top (y := iZ (((18 : Nat) : Int))) (rfl) ?_
      refine kg_l (kr_SN (host := R_FW) (As := [.int (iZ (((18 : Nat) : Int)))]) (rest := [.ref qa]) C0 (c_FW_tenTo l D Z _ 18 (by omega)) q_y_FW_tenTo (hE.nw 2 rfl) kw_31_ kw_3_ hd_y_FW_tenTo rfl rfl ⟨Nat.le_of_ble_eq_true rfl, Nat.le_of_ble_eq_true rfl⟩ (hP.sub (ws' := []) [] rfl) (hD.sub (ws' := []) [] (by decide) rfl) (hK.sub (tys' := []) [] rfl) hE hS (va_free (wc := []) hD hS hA [] rfl) rfl hl.1 rfl (Nat.le_of_ble_eq_true rfl) d_Exact_expand_70 ⟨Nat.le_of_ble_eq_true rfl, Nat.le_of_ble_eq_true rfl⟩) (fun r hr1 => ?_)
      obtain rfl : r = lN (10 ^ 18) := hr1
      refine kw_v (wr := [(h0, .inr (3, [.ref qa, .ref qs, .int (iZ (exSc sg z))])), (qs, .inr (2, [.ref lz, .int (iZ (((ns : Nat) : Int)))])), (lz, .inl (cAs, 124, .inr (.inl fs)))]) (tr := [(cAs, .long)]) (kr_V (C0 := R_Big) (ci := 2) (i0 := 0) (As := [.long (lN (10 ^ 18))]) (rest := []) C0 (c_Big_multiply l D Z _ qa la cAa fq nq ((exQ sg z) / 10 ^ 18) (10 ^ 18) (by rw [eQ, Nat.mul_div_cancel _ (by decide)]; exact hq33) (by decide) (by rw [eQ, Nat.mul_div_cancel _ (by decide), ← eQ]; exact Nat.lt_of_le_of_lt (Nat.le_of_eq (Nat.mul_one _).symm) (exQ_room hz (by decide)))) q_y_Big_multiply kw_55_ kw_35_ kw_36_ kw_24_ hd_y_Big_multiply rfl rfl ⟨Nat.le_of_ble_eq_true rfl, Nat.le_of_ble_eq_true rfl⟩ (hP.sub (ws' := [(qa, .inr (2, [.ref la, .int (iZ (((nq : Nat) : Int)))])), (la, .inl (cAa, 124, .inr (.inl fq)))]) [3, 4] rfl) (hD.sub (ws' := [(qa, .inr (2, [.ref la, .int (iZ (((nq : Nat) : Int)))])), (la, .inl (cAa, 124, .inr (.inl fq)))]) [3, 4] (by decide) rfl) (hK.sub (tys' := [(cAa, .long)]) [1] rfl) hE hS (va_free (wc := [(qa, .inr (2, [.ref la, .int (iZ (((nq : Nat) : Int)))])), (la, .inl (cAa, 124, .inr (.inl fq)))]) hD hS hA [3, 4] rfl) rfl rfl rfl hl.1 rfl (Nat.le_of_ble_eq_true rfl) d_Exact_expand_73 ⟨Nat.le_of_ble_eq_true rfl, Nat.le_of_ble_eq_true rfl⟩) hP hD hK hS hA [3, 4] [0, 1, 2] [0] rfl rfl (by decide) (by decide) rfl (fun u H locs hpost hP hD hK hS => ?_)
      obtain ⟨fa1, na1⟩ := u
      have hq73 : BigIs fa1 na1 (((exQ sg z) / 10 ^ 18) * (10 ^ 18)) := hpost
      have hP : va_P D classes [(h0, .inr (3, [.ref qa, .ref qs, .int (iZ (exSc sg z))])), (qs, .inr (2, [.ref lz, .int (iZ (((ns : Nat) : Int)))])), (lz, .inl (cAs, 124, .inr (.inl fs))), (qa, .inr (2, [.ref la, .int (iZ (((na1 : Nat) : Int)))])), (la, .inl (cAa, 124, .inr (.inl fa1)))] H := hP
      have hD : va_D A [(h0, .inr (3, [.ref qa, .ref qs, .int (iZ (exSc sg z))])), (qs, .inr (2, [.ref lz, .int (iZ (((ns : Nat) : Int)))])), (lz, .inl (cAs, 124, .inr (.inl fs))), (qa, .inr (2, [.ref la, .int (iZ (((na1 : Nat) : Int)))])), (la, .inl (cAa, 124, .inr (.inl fa1)))] := hD
      have hK : va_K D classes [(cAs, .long), (cAa, .long)] s := hK
      have hq73 : BigIs fa1 na1 (exQ sg z) := by rw [eQ, Nat.mul_div_cancel _ (by decide), ← eQ] at hq73; exact hq73
      refine lv_aload_n hx hb d_Exact_expand_76 rfl (lv_at hl 1 rfl) ?_
      refine va_get (D := D) (ci := 3) (v := .ref qs) (C := R_Exact) (T := F_Exact) (N := 3) hx hb hts i_Exact hown hK hP 0 rfl rfl 1 (by decide) (hts _ kw_47_) (fun _ h9 => h9) rfl d_Exact_expand_77 ?_
      refine lv_aload_n hx hb d_Exact_expand_80 rfl (lv_at hl 1 rfl) ?_
      refine va_get (D := D) (ci := 3) (v := .ref qa) (C := R_Exact) (T := F_Exact) (N := 3) hx hb hts i_Exact hown hK hP 0 rfl rfl 0 (by decide) (hts _ kw_46_) (fun _ h9 => h9) rfl d_Exact_expand_81 ?_
      refine lv_ldc2 (v := (4)) hx hb hown (hts _ kw_56_) d_Exact_expand_84 ?_
      refine nv_top (y := lN 4) (by decide) ?_
      refine lv_lload_n hx hb d_Exact_expand_87 rfl (lv_at hl 2 rfl) ?_
      refine nv_lmul hx hb d_Exact_expand_88 ?_
      refine kw_v (wr := [(h0, .inr (3, [.ref qa, .ref qs, .int (iZ (exSc sg z))]))]) (tr := []) (kr_V (C0 := R_Big) (ci := 2) (i0 := 0) (As := [.ref qa, .long (lN (4 * sg))]) (rest := []) C0 (c_Big_setToProduct l D Z _ qs lz cAs fs ns qa la cAa fa1 na1 (exQ sg z) (4 * sg) (hq73) (by omega) (exQ_room hz (by omega))) q_y_Big_setToProduct kw_57_ kw_58_ kw_59_ kw_24_ hd_y_Big_setToProduct rfl rfl ⟨Nat.le_of_ble_eq_true rfl, Nat.le_of_ble_eq_true rfl⟩ (hP.sub (ws' := [(qs, .inr (2, [.ref lz, .int (iZ (((ns : Nat) : Int)))])), (lz, .inl (cAs, 124, .inr (.inl fs))), (qa, .inr (2, [.ref la, .int (iZ (((na1 : Nat) : Int)))])), (la, .inl (cAa, 124, .inr (.inl fa1)))]) [1, 2, 3, 4] rfl) (hD.sub (ws' := [(qs, .inr (2, [.ref lz, .int (iZ (((ns : Nat) : Int)))])), (lz, .inl (cAs, 124, .inr (.inl fs))), (qa, .inr (2, [.ref la, .int (iZ (((na1 : Nat) : Int)))])), (la, .inl (cAa, 124, .inr (.inl fa1)))]) [1, 2, 3, 4] (by decide) rfl) (hK.sub (tys' := [(cAs, .long), (cAa, .long)]) [0, 1] rfl) hE hS (va_free (wc := [(qs, .inr (2, [.ref lz, .int (iZ (((ns : Nat) : Int)))])), (lz, .inl (cAs, 124, .inr (.inl fs))), (qa, .inr (2, [.ref la, .int (iZ (((na1 : Nat) : Int)))])), (la, .inl (cAa, 124, .inr (.inl fa1)))]) hD hS hA [1, 2, 3, 4] rfl) rfl rfl rfl hl.1 rfl (Nat.le_of_ble_eq_true rfl) d_Exact_expand_89 ⟨Nat.le_of_ble_eq_true rfl, Nat.le_of_ble_eq_true rfl⟩) hP hD hK hS hA [1, 2, 3, 4] [0] [] rfl rfl (by decide) (by decide) rfl (fun u H locs hpost hP hD hK hS => ?_)
      obtain ⟨fs1, ns1⟩ := u
      have hq89 : BigIs fs1 ns1 ((exQ sg z) * (4 * sg)) := hpost
      have hP : va_P D classes [(h0, .inr (3, [.ref qa, .ref qs, .int (iZ (exSc sg z))])), (qs, .inr (2, [.ref lz, .int (iZ (((ns1 : Nat) : Int)))])), (lz, .inl (cAs, 124, .inr (.inl fs1))), (qa, .inr (2, [.ref la, .int (iZ (((na1 : Nat) : Int)))])), (la, .inl (cAa, 124, .inr (.inl fa1)))] H := hP
      have hD : va_D A [(h0, .inr (3, [.ref qa, .ref qs, .int (iZ (exSc sg z))])), (qs, .inr (2, [.ref lz, .int (iZ (((ns1 : Nat) : Int)))])), (lz, .inl (cAs, 124, .inr (.inl fs1))), (qa, .inr (2, [.ref la, .int (iZ (((na1 : Nat) : Int)))])), (la, .inl (cAa, 124, .inr (.inl fa1)))] := hD
      have hK : va_K D classes [(cAs, .long), (cAa, .long)] s := hK
      exact ew_v (fa1, na1, fs1, ns1) hx hb hr hlocks d_Exact_expand_92 (show BigIs fa1 na1 (exQ sg z) ∧ BigIs fs1 ns1 (exQ sg z * (4 * sg)) from ⟨hq73, hq89⟩) (hP.sub (ws' := [(h0, .inr (3, [.ref qa, .ref qs, .int (iZ (exSc sg z))])), (qa, .inr (2, [.ref la, .int (iZ (((na1 : Nat) : Int)))])), (la, .inl (cAa, 124, .inr (.inl fa1))), (qs, .inr (2, [.ref lz, .int (iZ (((ns1 : Nat) : Int)))])), (lz, .inl (cAs, 124, .inr (.inl fs1)))]) [0, 3, 4, 1, 2] rfl) (hD.sub (ws' := [(h0, .inr (3, [.ref qa, .ref qs, .int (iZ (exSc sg z))])), (qa, .inr (2, [.ref la, .int (iZ (((na1 : Nat) : Int)))])), (la, .inl (cAa, 124, .inr (.inl fa1))), (qs, .inr (2, [.ref lz, .int (iZ (((ns1 : Nat) : Int)))])), (lz, .inl (cAs, 124, .inr (.inl fs1)))]) [0, 3, 4, 1, 2] (by decide) rfl) (hK.sub (tys' := [(cAa, .long), (cAs, .long)]) [1, 0] rfl) hS (Nat.le_of_ble_eq_true rfl) (Nat.le_of_ble_eq_true rfl)
    · obtain ⟨w, hw0⟩ : ∃ w : Nat, (w : Int) = exT sg z := ⟨(exT sg z).toNat, by omega⟩
      have eQ : exQ sg z = 1 * 2 ^ w * 10 ^ 18 := by unfold exQ; rw [if_pos (by omega), Nat.one_mul]; congr 2; omega
      have hw1 : 1 * 2 ^ w < 1000000000 ^ 124 := Nat.lt_of_le_of_lt (Nat.le_mul_of_pos_right _ (show 0 < 10 ^ 18 by decide)) (by rw [← eQ]; exact Nat.lt_of_le_of_lt (Nat.le_of_eq (Nat.mul_one _).symm) (exQ_room hz (by decide)))
      refine lv_aload_n hx hb d_Exact_expand_27 rfl (lv_at hl 1 rfl) ?_
      refine va_get (D := D) (ci := 3) (v := .ref qa) (C := R_Exact) (T := F_Exact) (N := 3) hx hb hts i_Exact hown hK hP 0 rfl rfl 0 (by decide) (hts _ kw_46_) (fun _ h9 => h9) rfl d_Exact_expand_28 ?_
      refine lv_iload hx hb d_Exact_expand_31 (lv_at hl 0 rfl) ?_
      refine zv_top (y := iZ (((w : Nat) : Int))) (congrArg iZ hw0.symm) ?_
      refine kw_v (wr := [(h0, .inr (3, [.ref qa, .ref qs, .int (iZ (sc))])), (qs, .inr (2, [.ref lz, .int (iZ (((ns : Nat) : Int)))])), (lz, .inl (cAs, 124, .inr (.inl fs)))]) (tr := [(cAs, .long)]) (kr_V (C0 := R_Big) (ci := 2) (i0 := 0) (As := [.int (iZ (((w : Nat) : Int)))]) (rest := []) C0 (c_Big_multiplyByTwos l D Z _ qa la cAa (vp_updL fa 0 (lN 1)) 1 1 w (one_big _) (by omega) (by assumption)) q_y_Big_multiplyByTwos kw_60_ kw_61_ kw_62_ kw_24_ hd_y_Big_multiplyByTwos rfl rfl ⟨Nat.le_of_ble_eq_true rfl, Nat.le_of_ble_eq_true rfl⟩ (hP.sub (ws' := [(qa, .inr (2, [.ref la, .int (iZ (((1 : Nat) : Int)))])), (la, .inl (cAa, 124, .inr (.inl ((vp_updL fa 0 (lN 1))))))]) [3, 4] rfl) (hD.sub (ws' := [(qa, .inr (2, [.ref la, .int (iZ (((1 : Nat) : Int)))])), (la, .inl (cAa, 124, .inr (.inl ((vp_updL fa 0 (lN 1))))))]) [3, 4] (by decide) rfl) (hK.sub (tys' := [(cAa, .long)]) [1] rfl) hE hS (va_free (wc := [(qa, .inr (2, [.ref la, .int (iZ (((1 : Nat) : Int)))])), (la, .inl (cAa, 124, .inr (.inl ((vp_updL fa 0 (lN 1))))))]) hD hS hA [3, 4] rfl) rfl rfl rfl hl.1 rfl (Nat.le_of_ble_eq_true rfl) d_Exact_expand_33 ⟨Nat.le_of_ble_eq_true rfl, Nat.le_of_ble_eq_true rfl⟩) hP hD hK hS hA [3, 4] [0, 1, 2] [0] rfl rfl (by decide) (by decide) rfl (fun u H locs hpost hP hD hK hS => ?_)
      obtain ⟨fq, nq⟩ := u
      have hq33 : BigIs fq nq (1 * 2 ^ w) := hpost
      have hP : va_P D classes [(h0, .inr (3, [.ref qa, .ref qs, .int (iZ (sc))])), (qs, .inr (2, [.ref lz, .int (iZ (((ns : Nat) : Int)))])), (lz, .inl (cAs, 124, .inr (.inl fs))), (qa, .inr (2, [.ref la, .int (iZ (((nq : Nat) : Int)))])), (la, .inl (cAa, 124, .inr (.inl fq)))] H := hP
      have hD : va_D A [(h0, .inr (3, [.ref qa, .ref qs, .int (iZ (sc))])), (qs, .inr (2, [.ref lz, .int (iZ (((ns : Nat) : Int)))])), (lz, .inl (cAs, 124, .inr (.inl fs))), (qa, .inr (2, [.ref la, .int (iZ (((nq : Nat) : Int)))])), (la, .inl (cAa, 124, .inr (.inl fq)))] := hD
      have hK : va_K D classes [(cAs, .long), (cAa, .long)] s := hK
      refine lv_aload_n hx hb d_Exact_expand_36 rfl (lv_at hl 1 rfl) ?_
      refine lv_bipush (v := iZ (18)) hx hb d_Exact_expand_37 (by decide) ?_
      refine zv_top (y := iZ (exSc sg z)) (congrArg iZ (by unfold exSc; rw [if_pos (by omega)])) ?_
      refine va_put (D := D) (ci := 3) (v := .int (iZ (exSc sg z))) (ty := .int) (C := R_Exact) (T := F_Exact) (N := 3) hx hb hts i_Exact t_Exact t_Exact_ok n_Exact hown hK hP hD hS 0 rfl rfl 2 (by decide) (hts _ kw_48_) (fun _ h9 => h9) rfl (by decide +kernel) rfl rfl (Nat.le_of_ble_eq_true rfl) d_Exact_expand_39 (fun H locs hP hD hS => ?_)
      have hP : va_P D classes [(h0, .inr (3, [.ref qa, .ref qs, .int (iZ (exSc sg z))])), (qs, .inr (2, [.ref lz, .int (iZ (((ns : Nat) : Int)))])), (lz, .inl (cAs, 124, .inr (.inl fs))), (qa, .inr (2, [.ref la, .int (iZ (((nq : Nat) : Int)))])), (la, .inl (cAa, 124, .inr (.inl fq)))] H := hP
      have hD : va_D A [(h0, .inr (3, [.ref qa, .ref qs, .int (iZ (exSc sg z))])), (qs, .inr (2, [.ref lz, .int (iZ (((ns : Nat) : Int)))])), (lz, .inl (cAs, 124, .inr (.inl fs))), (qa, .inr (2, [.ref la, .int (iZ (((nq : Nat) : Int)))])), (la, .inl (cAa, 124, .inr (.inl fq)))] := hD
      refine lv_goto (tgt := 64) hx hb d_Exact_expand_42 (by decide) ?_
      refine lv_aload_n hx hb d_Exact_expand_64 rfl (lv_at hl 1 rfl) ?_
      refine va_get (D := D) (ci := 3) (v := .ref qa) (C := R_Exact) (T := F_Exact) (N := 3) hx hb hts i_Exact hown hK hP 0 rfl rfl 0 (by decide) (hts _ kw_46_) (fun _ h9 => h9) rfl d_Exact_expand_65 ?_
      refine lv_bipush (v := iZ (18)) hx hb d_Exact_expand_68 (by decide) ?_
      refine zv_top (y := iZ (((18 : Nat) : Int))) (rfl) ?_
      refine kg_l (kr_SN (host := R_FW) (As := [.int (iZ (((18 : Nat) : Int)))]) (rest := [.ref qa]) C0 (c_FW_tenTo l D Z _ 18 (by omega)) q_y_FW_tenTo (hE.nw 2 rfl) kw_31_ kw_3_ hd_y_FW_tenTo rfl rfl ⟨Nat.le_of_ble_eq_true rfl, Nat.le_of_ble_eq_true rfl⟩ (hP.sub (ws' := []) [] rfl) (hD.sub (ws' := []) [] (by decide) rfl) (hK.sub (tys' := []) [] rfl) hE hS (va_free (wc := []) hD hS hA [] rfl) rfl hl.1 rfl (Nat.le_of_ble_eq_true rfl) d_Exact_expand_70 ⟨Nat.le_of_ble_eq_true rfl, Nat.le_of_ble_eq_true rfl⟩) (fun r hr1 => ?_)
      obtain rfl : r = lN (10 ^ 18) := hr1
      refine kw_v (wr := [(h0, .inr (3, [.ref qa, .ref qs, .int (iZ (exSc sg z))])), (qs, .inr (2, [.ref lz, .int (iZ (((ns : Nat) : Int)))])), (lz, .inl (cAs, 124, .inr (.inl fs)))]) (tr := [(cAs, .long)]) (kr_V (C0 := R_Big) (ci := 2) (i0 := 0) (As := [.long (lN (10 ^ 18))]) (rest := []) C0 (c_Big_multiply l D Z _ qa la cAa fq nq ((exQ sg z) / 10 ^ 18) (10 ^ 18) (by rw [eQ, Nat.mul_div_cancel _ (by decide)]; exact hq33) (by decide) (by rw [eQ, Nat.mul_div_cancel _ (by decide), ← eQ]; exact Nat.lt_of_le_of_lt (Nat.le_of_eq (Nat.mul_one _).symm) (exQ_room hz (by decide)))) q_y_Big_multiply kw_55_ kw_35_ kw_36_ kw_24_ hd_y_Big_multiply rfl rfl ⟨Nat.le_of_ble_eq_true rfl, Nat.le_of_ble_eq_true rfl⟩ (hP.sub (ws' := [(qa, .inr (2, [.ref la, .int (iZ (((nq : Nat) : Int)))])), (la, .inl (cAa, 124, .inr (.inl fq)))]) [3, 4] rfl) (hD.sub (ws' := [(qa, .inr (2, [.ref la, .int (iZ (((nq : Nat) : Int)))])), (la, .inl (cAa, 124, .inr (.inl fq)))]) [3, 4] (by decide) rfl) (hK.sub (tys' := [(cAa, .long)]) [1] rfl) hE hS (va_free (wc := [(qa, .inr (2, [.ref la, .int (iZ (((nq : Nat) : Int)))])), (la, .inl (cAa, 124, .inr (.inl fq)))]) hD hS hA [3, 4] rfl) rfl rfl rfl hl.1 rfl (Nat.le_of_ble_eq_true rfl) d_Exact_expand_73 ⟨Nat.le_of_ble_eq_true rfl, Nat.le_of_ble_eq_true rfl⟩) hP hD hK hS hA [3, 4] [0, 1, 2] [0] rfl rfl (by decide) (by decide) rfl (fun u H locs hpost hP hD hK hS => ?_)
      obtain ⟨fa1, na1⟩ := u
      have hq73 : BigIs fa1 na1 (((exQ sg z) / 10 ^ 18) * (10 ^ 18)) := hpost
      have hP : va_P D classes [(h0, .inr (3, [.ref qa, .ref qs, .int (iZ (exSc sg z))])), (qs, .inr (2, [.ref lz, .int (iZ (((ns : Nat) : Int)))])), (lz, .inl (cAs, 124, .inr (.inl fs))), (qa, .inr (2, [.ref la, .int (iZ (((na1 : Nat) : Int)))])), (la, .inl (cAa, 124, .inr (.inl fa1)))] H := hP
      have hD : va_D A [(h0, .inr (3, [.ref qa, .ref qs, .int (iZ (exSc sg z))])), (qs, .inr (2, [.ref lz, .int (iZ (((ns : Nat) : Int)))])), (lz, .inl (cAs, 124, .inr (.inl fs))), (qa, .inr (2, [.ref la, .int (iZ (((na1 : Nat) : Int)))])), (la, .inl (cAa, 124, .inr (.inl fa1)))] := hD
      have hK : va_K D classes [(cAs, .long), (cAa, .long)] s := hK
      have hq73 : BigIs fa1 na1 (exQ sg z) := by rw [eQ, Nat.mul_div_cancel _ (by decide), ← eQ] at hq73; exact hq73
      refine lv_aload_n hx hb d_Exact_expand_76 rfl (lv_at hl 1 rfl) ?_
      refine va_get (D := D) (ci := 3) (v := .ref qs) (C := R_Exact) (T := F_Exact) (N := 3) hx hb hts i_Exact hown hK hP 0 rfl rfl 1 (by decide) (hts _ kw_47_) (fun _ h9 => h9) rfl d_Exact_expand_77 ?_
      refine lv_aload_n hx hb d_Exact_expand_80 rfl (lv_at hl 1 rfl) ?_
      refine va_get (D := D) (ci := 3) (v := .ref qa) (C := R_Exact) (T := F_Exact) (N := 3) hx hb hts i_Exact hown hK hP 0 rfl rfl 0 (by decide) (hts _ kw_46_) (fun _ h9 => h9) rfl d_Exact_expand_81 ?_
      refine lv_ldc2 (v := (4)) hx hb hown (hts _ kw_56_) d_Exact_expand_84 ?_
      refine nv_top (y := lN 4) (by decide) ?_
      refine lv_lload_n hx hb d_Exact_expand_87 rfl (lv_at hl 2 rfl) ?_
      refine nv_lmul hx hb d_Exact_expand_88 ?_
      refine kw_v (wr := [(h0, .inr (3, [.ref qa, .ref qs, .int (iZ (exSc sg z))]))]) (tr := []) (kr_V (C0 := R_Big) (ci := 2) (i0 := 0) (As := [.ref qa, .long (lN (4 * sg))]) (rest := []) C0 (c_Big_setToProduct l D Z _ qs lz cAs fs ns qa la cAa fa1 na1 (exQ sg z) (4 * sg) (hq73) (by omega) (exQ_room hz (by omega))) q_y_Big_setToProduct kw_57_ kw_58_ kw_59_ kw_24_ hd_y_Big_setToProduct rfl rfl ⟨Nat.le_of_ble_eq_true rfl, Nat.le_of_ble_eq_true rfl⟩ (hP.sub (ws' := [(qs, .inr (2, [.ref lz, .int (iZ (((ns : Nat) : Int)))])), (lz, .inl (cAs, 124, .inr (.inl fs))), (qa, .inr (2, [.ref la, .int (iZ (((na1 : Nat) : Int)))])), (la, .inl (cAa, 124, .inr (.inl fa1)))]) [1, 2, 3, 4] rfl) (hD.sub (ws' := [(qs, .inr (2, [.ref lz, .int (iZ (((ns : Nat) : Int)))])), (lz, .inl (cAs, 124, .inr (.inl fs))), (qa, .inr (2, [.ref la, .int (iZ (((na1 : Nat) : Int)))])), (la, .inl (cAa, 124, .inr (.inl fa1)))]) [1, 2, 3, 4] (by decide) rfl) (hK.sub (tys' := [(cAs, .long), (cAa, .long)]) [0, 1] rfl) hE hS (va_free (wc := [(qs, .inr (2, [.ref lz, .int (iZ (((ns : Nat) : Int)))])), (lz, .inl (cAs, 124, .inr (.inl fs))), (qa, .inr (2, [.ref la, .int (iZ (((na1 : Nat) : Int)))])), (la, .inl (cAa, 124, .inr (.inl fa1)))]) hD hS hA [1, 2, 3, 4] rfl) rfl rfl rfl hl.1 rfl (Nat.le_of_ble_eq_true rfl) d_Exact_expand_89 ⟨Nat.le_of_ble_eq_true rfl, Nat.le_of_ble_eq_true rfl⟩) hP hD hK hS hA [1, 2, 3, 4] [0] [] rfl rfl (by decide) (by decide) rfl (fun u H locs hpost hP hD hK hS => ?_)
      obtain ⟨fs1, ns1⟩ := u
      have hq89 : BigIs fs1 ns1 ((exQ sg z) * (4 * sg)) := hpost
      have hP : va_P D classes [(h0, .inr (3, [.ref qa, .ref qs, .int (iZ (exSc sg z))])), (qs, .inr (2, [.ref lz, .int (iZ (((ns1 : Nat) : Int)))])), (lz, .inl (cAs, 124, .inr (.inl fs1))), (qa, .inr (2, [.ref la, .int (iZ (((na1 : Nat) : Int)))])), (la, .inl (cAa, 124, .inr (.inl fa1)))] H := hP
      have hD : va_D A [(h0, .inr (3, [.ref qa, .ref qs, .int (iZ (exSc sg z))])), (qs, .inr (2, [.ref lz, .int (iZ (((ns1 : Nat) : Int)))])), (lz, .inl (cAs, 124, .inr (.inl fs1))), (qa, .inr (2, [.ref la, .int (iZ (((na1 : Nat) : Int)))])), (la, .inl (cAa, 124, .inr (.inl fa1)))] := hD
      have hK : va_K D classes [(cAs, .long), (cAa, .long)] s := hK
      exact ew_v (fa1, na1, fs1, ns1) hx hb hr hlocks d_Exact_expand_92 (show BigIs fa1 na1 (exQ sg z) ∧ BigIs fs1 ns1 (exQ sg z * (4 * sg)) from ⟨hq73, hq89⟩) (hP.sub (ws' := [(h0, .inr (3, [.ref qa, .ref qs, .int (iZ (exSc sg z))])), (qa, .inr (2, [.ref la, .int (iZ (((na1 : Nat) : Int)))])), (la, .inl (cAa, 124, .inr (.inl fa1))), (qs, .inr (2, [.ref lz, .int (iZ (((ns1 : Nat) : Int)))])), (lz, .inl (cAs, 124, .inr (.inl fs1)))]) [0, 3, 4, 1, 2] rfl) (hD.sub (ws' := [(h0, .inr (3, [.ref qa, .ref qs, .int (iZ (exSc sg z))])), (qa, .inr (2, [.ref la, .int (iZ (((na1 : Nat) : Int)))])), (la, .inl (cAa, 124, .inr (.inl fa1))), (qs, .inr (2, [.ref lz, .int (iZ (((ns1 : Nat) : Int)))])), (lz, .inl (cAs, 124, .inr (.inl fs1)))]) [0, 3, 4, 1, 2] (by decide) rfl) (hK.sub (tys' := [(cAa, .long), (cAs, .long)]) [1, 0] rfl) hS (Nat.le_of_ble_eq_true rfl) (Nat.le_of_ble_eq_true rfl)
  · refine lv_iconst (v := iZ (0)) hx hb d_Exact_expand_6 rfl ?_
    refine zv_top (y := iZ (exT sg z)) (congrArg iZ (by unfold exT; rw [if_pos c2])) ?_
    refine lv_goto (tgt := 13) hx hb d_Exact_expand_7 (by decide) ?_
    refine lv_istore (lv' := [(4, .int (iZ (exT sg z))), (0, .ref h0), (1, .long (lN (sg))), (3, .int (iZ (z)))]) hx hb d_Exact_expand_13 hl (by decide) rfl (fun ls hl => ?_)
    refine lv_aload_n hx hb d_Exact_expand_15 rfl (lv_at hl 1 rfl) ?_
    refine va_get (D := D) (ci := 3) (v := .ref qa) (C := R_Exact) (T := F_Exact) (N := 3) hx hb hts i_Exact hown hK hP 0 rfl rfl 0 (by decide) (hts _ kw_46_) (fun _ h9 => h9) rfl d_Exact_expand_16 ?_
    refine kw_v (wr := [(h0, .inr (3, [.ref qa, .ref qs, .int (iZ (sc))])), (qs, .inr (2, [.ref lz, .int (iZ (((ns : Nat) : Int)))])), (lz, .inl (cAs, 124, .inr (.inl fs)))]) (tr := [(cAs, .long)]) (kr_V (C0 := R_Big) (ci := 2) (i0 := 0) (As := []) (rest := []) C0 (c_Big_setToOne l D Z _ qa la cAa fa na ) q_y_Big_setToOne kw_49_ kw_50_ kw_51_ kw_24_ hd_y_Big_setToOne rfl rfl ⟨Nat.le_of_ble_eq_true rfl, Nat.le_of_ble_eq_true rfl⟩ (hP.sub (ws' := [(qa, .inr (2, [.ref la, .int (iZ (((na : Nat) : Int)))])), (la, .inl (cAa, 124, .inr (.inl fa)))]) [1, 2] rfl) (hD.sub (ws' := [(qa, .inr (2, [.ref la, .int (iZ (((na : Nat) : Int)))])), (la, .inl (cAa, 124, .inr (.inl fa)))]) [1, 2] (by decide) rfl) (hK.sub (tys' := [(cAa, .long)]) [0] rfl) hE hS (va_free (wc := [(qa, .inr (2, [.ref la, .int (iZ (((na : Nat) : Int)))])), (la, .inl (cAa, 124, .inr (.inl fa)))]) hD hS hA [1, 2] rfl) rfl rfl rfl hl.1 rfl (Nat.le_of_ble_eq_true rfl) d_Exact_expand_19 ⟨Nat.le_of_ble_eq_true rfl, Nat.le_of_ble_eq_true rfl⟩) hP hD hK hS hA [1, 2] [0, 3, 4] [1] rfl rfl (by decide) (by decide) rfl (fun u H locs hpost hP hD hK hS => ?_)
    have hP : va_P D classes [(h0, .inr (3, [.ref qa, .ref qs, .int (iZ (sc))])), (qs, .inr (2, [.ref lz, .int (iZ (((ns : Nat) : Int)))])), (lz, .inl (cAs, 124, .inr (.inl fs))), (qa, .inr (2, [.ref la, .int (iZ (((1 : Nat) : Int)))])), (la, .inl (cAa, 124, .inr (.inl (vp_updL fa 0 (lN 1)))))] H := hP
    have hD : va_D A [(h0, .inr (3, [.ref qa, .ref qs, .int (iZ (sc))])), (qs, .inr (2, [.ref lz, .int (iZ (((ns : Nat) : Int)))])), (lz, .inl (cAs, 124, .inr (.inl fs))), (qa, .inr (2, [.ref la, .int (iZ (((1 : Nat) : Int)))])), (la, .inl (cAa, 124, .inr (.inl (vp_updL fa 0 (lN 1)))))] := hD
    have hK : va_K D classes [(cAs, .long), (cAa, .long)] s := hK
    refine lv_iload hx hb d_Exact_expand_22 (lv_at hl 0 rfl) ?_
    refine zv_if_lt (tgt := 45) hx hb d_Exact_expand_24 (by decide) (by omega) (fun c24 => ?_) (fun c24 => ?_)
    · obtain ⟨w, hw0⟩ : ∃ w : Nat, (w : Int) = - exT sg z := ⟨(- exT sg z).toNat, by omega⟩
      have eQ : exQ sg z = 1 * 5 ^ w * 10 ^ 18 := by unfold exQ; rw [if_neg (by omega), Nat.one_mul]; congr 2; omega
      have hw1 : 1 * 5 ^ w < 1000000000 ^ 124 := Nat.lt_of_le_of_lt (Nat.le_mul_of_pos_right _ (show 0 < 10 ^ 18 by decide)) (by rw [← eQ]; exact Nat.lt_of_le_of_lt (Nat.le_of_eq (Nat.mul_one _).symm) (exQ_room hz (by decide)))
      refine lv_aload_n hx hb d_Exact_expand_45 rfl (lv_at hl 1 rfl) ?_
      refine va_get (D := D) (ci := 3) (v := .ref qa) (C := R_Exact) (T := F_Exact) (N := 3) hx hb hts i_Exact hown hK hP 0 rfl rfl 0 (by decide) (hts _ kw_46_) (fun _ h9 => h9) rfl d_Exact_expand_46 ?_
      refine lv_iload hx hb d_Exact_expand_49 (lv_at hl 0 rfl) ?_
      refine zv_ineg hx hb d_Exact_expand_51 ?_
      refine zv_top (y := iZ (((w : Nat) : Int))) (congrArg iZ hw0.symm) ?_
      refine kw_v (wr := [(h0, .inr (3, [.ref qa, .ref qs, .int (iZ (sc))])), (qs, .inr (2, [.ref lz, .int (iZ (((ns : Nat) : Int)))])), (lz, .inl (cAs, 124, .inr (.inl fs)))]) (tr := [(cAs, .long)]) (kr_V (C0 := R_Big) (ci := 2) (i0 := 0) (As := [.int (iZ (((w : Nat) : Int)))]) (rest := []) C0 (c_Big_multiplyByFives l D Z _ qa la cAa (vp_updL fa 0 (lN 1)) 1 1 w (one_big _) (by omega) (by assumption)) q_y_Big_multiplyByFives kw_52_ kw_53_ kw_54_ kw_24_ hd_y_Big_multiplyByFives rfl rfl ⟨Nat.le_of_ble_eq_true rfl, Nat.le_of_ble_eq_true rfl⟩ (hP.sub (ws' := [(qa, .inr (2, [.ref la, .int (iZ (((1 : Nat) : Int)))])), (la, .inl (cAa, 124, .inr (.inl ((vp_updL fa 0 (lN 1))))))]) [3, 4] rfl) (hD.sub (ws' := [(qa, .inr (2, [.ref la, .int (iZ (((1 : Nat) : Int)))])), (la, .inl (cAa, 124, .inr (.inl ((vp_updL fa 0 (lN 1))))))]) [3, 4] (by decide) rfl) (hK.sub (tys' := [(cAa, .long)]) [1] rfl) hE hS (va_free (wc := [(qa, .inr (2, [.ref la, .int (iZ (((1 : Nat) : Int)))])), (la, .inl (cAa, 124, .inr (.inl ((vp_updL fa 0 (lN 1))))))]) hD hS hA [3, 4] rfl) rfl rfl rfl hl.1 rfl (Nat.le_of_ble_eq_true rfl) d_Exact_expand_52 ⟨Nat.le_of_ble_eq_true rfl, Nat.le_of_ble_eq_true rfl⟩) hP hD hK hS hA [3, 4] [0, 1, 2] [0] rfl rfl (by decide) (by decide) rfl (fun u H locs hpost hP hD hK hS => ?_)
      obtain ⟨fq, nq⟩ := u
      have hq33 : BigIs fq nq (1 * 5 ^ w) := hpost
      have hP : va_P D classes [(h0, .inr (3, [.ref qa, .ref qs, .int (iZ (sc))])), (qs, .inr (2, [.ref lz, .int (iZ (((ns : Nat) : Int)))])), (lz, .inl (cAs, 124, .inr (.inl fs))), (qa, .inr (2, [.ref la, .int (iZ (((nq : Nat) : Int)))])), (la, .inl (cAa, 124, .inr (.inl fq)))] H := hP
      have hD : va_D A [(h0, .inr (3, [.ref qa, .ref qs, .int (iZ (sc))])), (qs, .inr (2, [.ref lz, .int (iZ (((ns : Nat) : Int)))])), (lz, .inl (cAs, 124, .inr (.inl fs))), (qa, .inr (2, [.ref la, .int (iZ (((nq : Nat) : Int)))])), (la, .inl (cAa, 124, .inr (.inl fq)))] := hD
      have hK : va_K D classes [(cAs, .long), (cAa, .long)] s := hK
      refine lv_aload_n hx hb d_Exact_expand_55 rfl (lv_at hl 1 rfl) ?_
      refine lv_bipush (v := iZ (18)) hx hb d_Exact_expand_56 (by decide) ?_
      refine lv_iload hx hb d_Exact_expand_58 (lv_at hl 0 rfl) ?_
      refine zv_isub hx hb d_Exact_expand_60 ?_
      refine zv_top (y := iZ (exSc sg z)) (congrArg iZ (by unfold exSc; rw [if_neg (by omega)])) ?_
      refine va_put (D := D) (ci := 3) (v := .int (iZ (exSc sg z))) (ty := .int) (C := R_Exact) (T := F_Exact) (N := 3) hx hb hts i_Exact t_Exact t_Exact_ok n_Exact hown hK hP hD hS 0 rfl rfl 2 (by decide) (hts _ kw_48_) (fun _ h9 => h9) rfl (by decide +kernel) rfl rfl (Nat.le_of_ble_eq_true rfl) d_Exact_expand_61 (fun H locs hP hD hS => ?_)
      have hP : va_P D classes [(h0, .inr (3, [.ref qa, .ref qs, .int (iZ (exSc sg z))])), (qs, .inr (2, [.ref lz, .int (iZ (((ns : Nat) : Int)))])), (lz, .inl (cAs, 124, .inr (.inl fs))), (qa, .inr (2, [.ref la, .int (iZ (((nq : Nat) : Int)))])), (la, .inl (cAa, 124, .inr (.inl fq)))] H := hP
      have hD : va_D A [(h0, .inr (3, [.ref qa, .ref qs, .int (iZ (exSc sg z))])), (qs, .inr (2, [.ref lz, .int (iZ (((ns : Nat) : Int)))])), (lz, .inl (cAs, 124, .inr (.inl fs))), (qa, .inr (2, [.ref la, .int (iZ (((nq : Nat) : Int)))])), (la, .inl (cAa, 124, .inr (.inl fq)))] := hD
      refine lv_aload_n hx hb d_Exact_expand_64 rfl (lv_at hl 1 rfl) ?_
      refine va_get (D := D) (ci := 3) (v := .ref qa) (C := R_Exact) (T := F_Exact) (N := 3) hx hb hts i_Exact hown hK hP 0 rfl rfl 0 (by decide) (hts _ kw_46_) (fun _ h9 => h9) rfl d_Exact_expand_65 ?_
      refine lv_bipush (v := iZ (18)) hx hb d_Exact_expand_68 (by decide) ?_
      refine zv_top (y := iZ (((18 : Nat) : Int))) (rfl) ?_
      refine kg_l (kr_SN (host := R_FW) (As := [.int (iZ (((18 : Nat) : Int)))]) (rest := [.ref qa]) C0 (c_FW_tenTo l D Z _ 18 (by omega)) q_y_FW_tenTo (hE.nw 2 rfl) kw_31_ kw_3_ hd_y_FW_tenTo rfl rfl ⟨Nat.le_of_ble_eq_true rfl, Nat.le_of_ble_eq_true rfl⟩ (hP.sub (ws' := []) [] rfl) (hD.sub (ws' := []) [] (by decide) rfl) (hK.sub (tys' := []) [] rfl) hE hS (va_free (wc := []) hD hS hA [] rfl) rfl hl.1 rfl (Nat.le_of_ble_eq_true rfl) d_Exact_expand_70 ⟨Nat.le_of_ble_eq_true rfl, Nat.le_of_ble_eq_true rfl⟩) (fun r hr1 => ?_)
      obtain rfl : r = lN (10 ^ 18) := hr1
      refine kw_v (wr := [(h0, .inr (3, [.ref qa, .ref qs, .int (iZ (exSc sg z))])), (qs, .inr (2, [.ref lz, .int (iZ (((ns : Nat) : Int)))])), (lz, .inl (cAs, 124, .inr (.inl fs)))]) (tr := [(cAs, .long)]) (kr_V (C0 := R_Big) (ci := 2) (i0 := 0) (As := [.long (lN (10 ^ 18))]) (rest := []) C0 (c_Big_multiply l D Z _ qa la cAa fq nq ((exQ sg z) / 10 ^ 18) (10 ^ 18) (by rw [eQ, Nat.mul_div_cancel _ (by decide)]; exact hq33) (by decide) (by rw [eQ, Nat.mul_div_cancel _ (by decide), ← eQ]; exact Nat.lt_of_le_of_lt (Nat.le_of_eq (Nat.mul_one _).symm) (exQ_room hz (by decide)))) q_y_Big_multiply kw_55_ kw_35_ kw_36_ kw_24_ hd_y_Big_multiply rfl rfl ⟨Nat.le_of_ble_eq_true rfl, Nat.le_of_ble_eq_true rfl⟩ (hP.sub (ws' := [(qa, .inr (2, [.ref la, .int (iZ (((nq : Nat) : Int)))])), (la, .inl (cAa, 124, .inr (.inl fq)))]) [3, 4] rfl) (hD.sub (ws' := [(qa, .inr (2, [.ref la, .int (iZ (((nq : Nat) : Int)))])), (la, .inl (cAa, 124, .inr (.inl fq)))]) [3, 4] (by decide) rfl) (hK.sub (tys' := [(cAa, .long)]) [1] rfl) hE hS (va_free (wc := [(qa, .inr (2, [.ref la, .int (iZ (((nq : Nat) : Int)))])), (la, .inl (cAa, 124, .inr (.inl fq)))]) hD hS hA [3, 4] rfl) rfl rfl rfl hl.1 rfl (Nat.le_of_ble_eq_true rfl) d_Exact_expand_73 ⟨Nat.le_of_ble_eq_true rfl, Nat.le_of_ble_eq_true rfl⟩) hP hD hK hS hA [3, 4] [0, 1, 2] [0] rfl rfl (by decide) (by decide) rfl (fun u H locs hpost hP hD hK hS => ?_)
      obtain ⟨fa1, na1⟩ := u
      have hq73 : BigIs fa1 na1 (((exQ sg z) / 10 ^ 18) * (10 ^ 18)) := hpost
      have hP : va_P D classes [(h0, .inr (3, [.ref qa, .ref qs, .int (iZ (exSc sg z))])), (qs, .inr (2, [.ref lz, .int (iZ (((ns : Nat) : Int)))])), (lz, .inl (cAs, 124, .inr (.inl fs))), (qa, .inr (2, [.ref la, .int (iZ (((na1 : Nat) : Int)))])), (la, .inl (cAa, 124, .inr (.inl fa1)))] H := hP
      have hD : va_D A [(h0, .inr (3, [.ref qa, .ref qs, .int (iZ (exSc sg z))])), (qs, .inr (2, [.ref lz, .int (iZ (((ns : Nat) : Int)))])), (lz, .inl (cAs, 124, .inr (.inl fs))), (qa, .inr (2, [.ref la, .int (iZ (((na1 : Nat) : Int)))])), (la, .inl (cAa, 124, .inr (.inl fa1)))] := hD
      have hK : va_K D classes [(cAs, .long), (cAa, .long)] s := hK
      have hq73 : BigIs fa1 na1 (exQ sg z) := by rw [eQ, Nat.mul_div_cancel _ (by decide), ← eQ] at hq73; exact hq73
      refine lv_aload_n hx hb d_Exact_expand_76 rfl (lv_at hl 1 rfl) ?_
      refine va_get (D := D) (ci := 3) (v := .ref qs) (C := R_Exact) (T := F_Exact) (N := 3) hx hb hts i_Exact hown hK hP 0 rfl rfl 1 (by decide) (hts _ kw_47_) (fun _ h9 => h9) rfl d_Exact_expand_77 ?_
      refine lv_aload_n hx hb d_Exact_expand_80 rfl (lv_at hl 1 rfl) ?_
      refine va_get (D := D) (ci := 3) (v := .ref qa) (C := R_Exact) (T := F_Exact) (N := 3) hx hb hts i_Exact hown hK hP 0 rfl rfl 0 (by decide) (hts _ kw_46_) (fun _ h9 => h9) rfl d_Exact_expand_81 ?_
      refine lv_ldc2 (v := (4)) hx hb hown (hts _ kw_56_) d_Exact_expand_84 ?_
      refine nv_top (y := lN 4) (by decide) ?_
      refine lv_lload_n hx hb d_Exact_expand_87 rfl (lv_at hl 2 rfl) ?_
      refine nv_lmul hx hb d_Exact_expand_88 ?_
      refine kw_v (wr := [(h0, .inr (3, [.ref qa, .ref qs, .int (iZ (exSc sg z))]))]) (tr := []) (kr_V (C0 := R_Big) (ci := 2) (i0 := 0) (As := [.ref qa, .long (lN (4 * sg))]) (rest := []) C0 (c_Big_setToProduct l D Z _ qs lz cAs fs ns qa la cAa fa1 na1 (exQ sg z) (4 * sg) (hq73) (by omega) (exQ_room hz (by omega))) q_y_Big_setToProduct kw_57_ kw_58_ kw_59_ kw_24_ hd_y_Big_setToProduct rfl rfl ⟨Nat.le_of_ble_eq_true rfl, Nat.le_of_ble_eq_true rfl⟩ (hP.sub (ws' := [(qs, .inr (2, [.ref lz, .int (iZ (((ns : Nat) : Int)))])), (lz, .inl (cAs, 124, .inr (.inl fs))), (qa, .inr (2, [.ref la, .int (iZ (((na1 : Nat) : Int)))])), (la, .inl (cAa, 124, .inr (.inl fa1)))]) [1, 2, 3, 4] rfl) (hD.sub (ws' := [(qs, .inr (2, [.ref lz, .int (iZ (((ns : Nat) : Int)))])), (lz, .inl (cAs, 124, .inr (.inl fs))), (qa, .inr (2, [.ref la, .int (iZ (((na1 : Nat) : Int)))])), (la, .inl (cAa, 124, .inr (.inl fa1)))]) [1, 2, 3, 4] (by decide) rfl) (hK.sub (tys' := [(cAs, .long), (cAa, .long)]) [0, 1] rfl) hE hS (va_free (wc := [(qs, .inr (2, [.ref lz, .int (iZ (((ns : Nat) : Int)))])), (lz, .inl (cAs, 124, .inr (.inl fs))), (qa, .inr (2, [.ref la, .int (iZ (((na1 : Nat) : Int)))])), (la, .inl (cAa, 124, .inr (.inl fa1)))]) hD hS hA [1, 2, 3, 4] rfl) rfl rfl rfl hl.1 rfl (Nat.le_of_ble_eq_true rfl) d_Exact_expand_89 ⟨Nat.le_of_ble_eq_true rfl, Nat.le_of_ble_eq_true rfl⟩) hP hD hK hS hA [1, 2, 3, 4] [0] [] rfl rfl (by decide) (by decide) rfl (fun u H locs hpost hP hD hK hS => ?_)
      obtain ⟨fs1, ns1⟩ := u
      have hq89 : BigIs fs1 ns1 ((exQ sg z) * (4 * sg)) := hpost
      have hP : va_P D classes [(h0, .inr (3, [.ref qa, .ref qs, .int (iZ (exSc sg z))])), (qs, .inr (2, [.ref lz, .int (iZ (((ns1 : Nat) : Int)))])), (lz, .inl (cAs, 124, .inr (.inl fs1))), (qa, .inr (2, [.ref la, .int (iZ (((na1 : Nat) : Int)))])), (la, .inl (cAa, 124, .inr (.inl fa1)))] H := hP
      have hD : va_D A [(h0, .inr (3, [.ref qa, .ref qs, .int (iZ (exSc sg z))])), (qs, .inr (2, [.ref lz, .int (iZ (((ns1 : Nat) : Int)))])), (lz, .inl (cAs, 124, .inr (.inl fs1))), (qa, .inr (2, [.ref la, .int (iZ (((na1 : Nat) : Int)))])), (la, .inl (cAa, 124, .inr (.inl fa1)))] := hD
      have hK : va_K D classes [(cAs, .long), (cAa, .long)] s := hK
      exact ew_v (fa1, na1, fs1, ns1) hx hb hr hlocks d_Exact_expand_92 (show BigIs fa1 na1 (exQ sg z) ∧ BigIs fs1 ns1 (exQ sg z * (4 * sg)) from ⟨hq73, hq89⟩) (hP.sub (ws' := [(h0, .inr (3, [.ref qa, .ref qs, .int (iZ (exSc sg z))])), (qa, .inr (2, [.ref la, .int (iZ (((na1 : Nat) : Int)))])), (la, .inl (cAa, 124, .inr (.inl fa1))), (qs, .inr (2, [.ref lz, .int (iZ (((ns1 : Nat) : Int)))])), (lz, .inl (cAs, 124, .inr (.inl fs1)))]) [0, 3, 4, 1, 2] rfl) (hD.sub (ws' := [(h0, .inr (3, [.ref qa, .ref qs, .int (iZ (exSc sg z))])), (qa, .inr (2, [.ref la, .int (iZ (((na1 : Nat) : Int)))])), (la, .inl (cAa, 124, .inr (.inl fa1))), (qs, .inr (2, [.ref lz, .int (iZ (((ns1 : Nat) : Int)))])), (lz, .inl (cAs, 124, .inr (.inl fs1)))]) [0, 3, 4, 1, 2] (by decide) rfl) (hK.sub (tys' := [(cAa, .long), (cAs, .long)]) [1, 0] rfl) hS (Nat.le_of_ble_eq_true rfl) (Nat.le_of_ble_eq_true rfl)
    · obtain ⟨w, hw0⟩ : ∃ w : Nat, (w : Int) = exT sg z := ⟨(exT sg z).toNat, by omega⟩
      have eQ : exQ sg z = 1 * 2 ^ w * 10 ^ 18 := by unfold exQ; rw [if_pos (by omega), Nat.one_mul]; congr 2; omega
      have hw1 : 1 * 2 ^ w < 1000000000 ^ 124 := Nat.lt_of_le_of_lt (Nat.le_mul_of_pos_right _ (show 0 < 10 ^ 18 by decide)) (by rw [← eQ]; exact Nat.lt_of_le_of_lt (Nat.le_of_eq (Nat.mul_one _).symm) (exQ_room hz (by decide)))
      refine lv_aload_n hx hb d_Exact_expand_27 rfl (lv_at hl 1 rfl) ?_
      refine va_get (D := D) (ci := 3) (v := .ref qa) (C := R_Exact) (T := F_Exact) (N := 3) hx hb hts i_Exact hown hK hP 0 rfl rfl 0 (by decide) (hts _ kw_46_) (fun _ h9 => h9) rfl d_Exact_expand_28 ?_
      refine lv_iload hx hb d_Exact_expand_31 (lv_at hl 0 rfl) ?_
      refine zv_top (y := iZ (((w : Nat) : Int))) (congrArg iZ hw0.symm) ?_
      refine kw_v (wr := [(h0, .inr (3, [.ref qa, .ref qs, .int (iZ (sc))])), (qs, .inr (2, [.ref lz, .int (iZ (((ns : Nat) : Int)))])), (lz, .inl (cAs, 124, .inr (.inl fs)))]) (tr := [(cAs, .long)]) (kr_V (C0 := R_Big) (ci := 2) (i0 := 0) (As := [.int (iZ (((w : Nat) : Int)))]) (rest := []) C0 (c_Big_multiplyByTwos l D Z _ qa la cAa (vp_updL fa 0 (lN 1)) 1 1 w (one_big _) (by omega) (by assumption)) q_y_Big_multiplyByTwos kw_60_ kw_61_ kw_62_ kw_24_ hd_y_Big_multiplyByTwos rfl rfl ⟨Nat.le_of_ble_eq_true rfl, Nat.le_of_ble_eq_true rfl⟩ (hP.sub (ws' := [(qa, .inr (2, [.ref la, .int (iZ (((1 : Nat) : Int)))])), (la, .inl (cAa, 124, .inr (.inl ((vp_updL fa 0 (lN 1))))))]) [3, 4] rfl) (hD.sub (ws' := [(qa, .inr (2, [.ref la, .int (iZ (((1 : Nat) : Int)))])), (la, .inl (cAa, 124, .inr (.inl ((vp_updL fa 0 (lN 1))))))]) [3, 4] (by decide) rfl) (hK.sub (tys' := [(cAa, .long)]) [1] rfl) hE hS (va_free (wc := [(qa, .inr (2, [.ref la, .int (iZ (((1 : Nat) : Int)))])), (la, .inl (cAa, 124, .inr (.inl ((vp_updL fa 0 (lN 1))))))]) hD hS hA [3, 4] rfl) rfl rfl rfl hl.1 rfl (Nat.le_of_ble_eq_true rfl) d_Exact_expand_33 ⟨Nat.le_of_ble_eq_true rfl, Nat.le_of_ble_eq_true rfl⟩) hP hD hK hS hA [3, 4] [0, 1, 2] [0] rfl rfl (by decide) (by decide) rfl (fun u H locs hpost hP hD hK hS => ?_)
      obtain ⟨fq, nq⟩ := u
      have hq33 : BigIs fq nq (1 * 2 ^ w) := hpost
      have hP : va_P D classes [(h0, .inr (3, [.ref qa, .ref qs, .int (iZ (sc))])), (qs, .inr (2, [.ref lz, .int (iZ (((ns : Nat) : Int)))])), (lz, .inl (cAs, 124, .inr (.inl fs))), (qa, .inr (2, [.ref la, .int (iZ (((nq : Nat) : Int)))])), (la, .inl (cAa, 124, .inr (.inl fq)))] H := hP
      have hD : va_D A [(h0, .inr (3, [.ref qa, .ref qs, .int (iZ (sc))])), (qs, .inr (2, [.ref lz, .int (iZ (((ns : Nat) : Int)))])), (lz, .inl (cAs, 124, .inr (.inl fs))), (qa, .inr (2, [.ref la, .int (iZ (((nq : Nat) : Int)))])), (la, .inl (cAa, 124, .inr (.inl fq)))] := hD
      have hK : va_K D classes [(cAs, .long), (cAa, .long)] s := hK
      refine lv_aload_n hx hb d_Exact_expand_36 rfl (lv_at hl 1 rfl) ?_
      refine lv_bipush (v := iZ (18)) hx hb d_Exact_expand_37 (by decide) ?_
      refine zv_top (y := iZ (exSc sg z)) (congrArg iZ (by unfold exSc; rw [if_pos (by omega)])) ?_
      refine va_put (D := D) (ci := 3) (v := .int (iZ (exSc sg z))) (ty := .int) (C := R_Exact) (T := F_Exact) (N := 3) hx hb hts i_Exact t_Exact t_Exact_ok n_Exact hown hK hP hD hS 0 rfl rfl 2 (by decide) (hts _ kw_48_) (fun _ h9 => h9) rfl (by decide +kernel) rfl rfl (Nat.le_of_ble_eq_true rfl) d_Exact_expand_39 (fun H locs hP hD hS => ?_)
      have hP : va_P D classes [(h0, .inr (3, [.ref qa, .ref qs, .int (iZ (exSc sg z))])), (qs, .inr (2, [.ref lz, .int (iZ (((ns : Nat) : Int)))])), (lz, .inl (cAs, 124, .inr (.inl fs))), (qa, .inr (2, [.ref la, .int (iZ (((nq : Nat) : Int)))])), (la, .inl (cAa, 124, .inr (.inl fq)))] H := hP
      have hD : va_D A [(h0, .inr (3, [.ref qa, .ref qs, .int (iZ (exSc sg z))])), (qs, .inr (2, [.ref lz, .int (iZ (((ns : Nat) : Int)))])), (lz, .inl (cAs, 124, .inr (.inl fs))), (qa, .inr (2, [.ref la, .int (iZ (((nq : Nat) : Int)))])), (la, .inl (cAa, 124, .inr (.inl fq)))] := hD
      refine lv_goto (tgt := 64) hx hb d_Exact_expand_42 (by decide) ?_
      refine lv_aload_n hx hb d_Exact_expand_64 rfl (lv_at hl 1 rfl) ?_
      refine va_get (D := D) (ci := 3) (v := .ref qa) (C := R_Exact) (T := F_Exact) (N := 3) hx hb hts i_Exact hown hK hP 0 rfl rfl 0 (by decide) (hts _ kw_46_) (fun _ h9 => h9) rfl d_Exact_expand_65 ?_
      refine lv_bipush (v := iZ (18)) hx hb d_Exact_expand_68 (by decide) ?_
      refine zv_top (y := iZ (((18 : Nat) : Int))) (rfl) ?_
      refine kg_l (kr_SN (host := R_FW) (As := [.int (iZ (((18 : Nat) : Int)))]) (rest := [.ref qa]) C0 (c_FW_tenTo l D Z _ 18 (by omega)) q_y_FW_tenTo (hE.nw 2 rfl) kw_31_ kw_3_ hd_y_FW_tenTo rfl rfl ⟨Nat.le_of_ble_eq_true rfl, Nat.le_of_ble_eq_true rfl⟩ (hP.sub (ws' := []) [] rfl) (hD.sub (ws' := []) [] (by decide) rfl) (hK.sub (tys' := []) [] rfl) hE hS (va_free (wc := []) hD hS hA [] rfl) rfl hl.1 rfl (Nat.le_of_ble_eq_true rfl) d_Exact_expand_70 ⟨Nat.le_of_ble_eq_true rfl, Nat.le_of_ble_eq_true rfl⟩) (fun r hr1 => ?_)
      obtain rfl : r = lN (10 ^ 18) := hr1
      refine kw_v (wr := [(h0, .inr (3, [.ref qa, .ref qs, .int (iZ (exSc sg z))])), (qs, .inr (2, [.ref lz, .int (iZ (((ns : Nat) : Int)))])), (lz, .inl (cAs, 124, .inr (.inl fs)))]) (tr := [(cAs, .long)]) (kr_V (C0 := R_Big) (ci := 2) (i0 := 0) (As := [.long (lN (10 ^ 18))]) (rest := []) C0 (c_Big_multiply l D Z _ qa la cAa fq nq ((exQ sg z) / 10 ^ 18) (10 ^ 18) (by rw [eQ, Nat.mul_div_cancel _ (by decide)]; exact hq33) (by decide) (by rw [eQ, Nat.mul_div_cancel _ (by decide), ← eQ]; exact Nat.lt_of_le_of_lt (Nat.le_of_eq (Nat.mul_one _).symm) (exQ_room hz (by decide)))) q_y_Big_multiply kw_55_ kw_35_ kw_36_ kw_24_ hd_y_Big_multiply rfl rfl ⟨Nat.le_of_ble_eq_true rfl, Nat.le_of_ble_eq_true rfl⟩ (hP.sub (ws' := [(qa, .inr (2, [.ref la, .int (iZ (((nq : Nat) : Int)))])), (la, .inl (cAa, 124, .inr (.inl fq)))]) [3, 4] rfl) (hD.sub (ws' := [(qa, .inr (2, [.ref la, .int (iZ (((nq : Nat) : Int)))])), (la, .inl (cAa, 124, .inr (.inl fq)))]) [3, 4] (by decide) rfl) (hK.sub (tys' := [(cAa, .long)]) [1] rfl) hE hS (va_free (wc := [(qa, .inr (2, [.ref la, .int (iZ (((nq : Nat) : Int)))])), (la, .inl (cAa, 124, .inr (.inl fq)))]) hD hS hA [3, 4] rfl) rfl rfl rfl hl.1 rfl (Nat.le_of_ble_eq_true rfl) d_Exact_expand_73 ⟨Nat.le_of_ble_eq_true rfl, Nat.le_of_ble_eq_true rfl⟩) hP hD hK hS hA [3, 4] [0, 1, 2] [0] rfl rfl (by decide) (by decide) rfl (fun u H locs hpost hP hD hK hS => ?_)
      obtain ⟨fa1, na1⟩ := u
      have hq73 : BigIs fa1 na1 (((exQ sg z) / 10 ^ 18) * (10 ^ 18)) := hpost
      have hP : va_P D classes [(h0, .inr (3, [.ref qa, .ref qs, .int (iZ (exSc sg z))])), (qs, .inr (2, [.ref lz, .int (iZ (((ns : Nat) : Int)))])), (lz, .inl (cAs, 124, .inr (.inl fs))), (qa, .inr (2, [.ref la, .int (iZ (((na1 : Nat) : Int)))])), (la, .inl (cAa, 124, .inr (.inl fa1)))] H := hP
      have hD : va_D A [(h0, .inr (3, [.ref qa, .ref qs, .int (iZ (exSc sg z))])), (qs, .inr (2, [.ref lz, .int (iZ (((ns : Nat) : Int)))])), (lz, .inl (cAs, 124, .inr (.inl fs))), (qa, .inr (2, [.ref la, .int (iZ (((na1 : Nat) : Int)))])), (la, .inl (cAa, 124, .inr (.inl fa1)))] := hD
      have hK : va_K D classes [(cAs, .long), (cAa, .long)] s := hK
      have hq73 : BigIs fa1 na1 (exQ sg z) := by rw [eQ, Nat.mul_div_cancel _ (by decide), ← eQ] at hq73; exact hq73
      refine lv_aload_n hx hb d_Exact_expand_76 rfl (lv_at hl 1 rfl) ?_
      refine va_get (D := D) (ci := 3) (v := .ref qs) (C := R_Exact) (T := F_Exact) (N := 3) hx hb hts i_Exact hown hK hP 0 rfl rfl 1 (by decide) (hts _ kw_47_) (fun _ h9 => h9) rfl d_Exact_expand_77 ?_
      refine lv_aload_n hx hb d_Exact_expand_80 rfl (lv_at hl 1 rfl) ?_
      refine va_get (D := D) (ci := 3) (v := .ref qa) (C := R_Exact) (T := F_Exact) (N := 3) hx hb hts i_Exact hown hK hP 0 rfl rfl 0 (by decide) (hts _ kw_46_) (fun _ h9 => h9) rfl d_Exact_expand_81 ?_
      refine lv_ldc2 (v := (4)) hx hb hown (hts _ kw_56_) d_Exact_expand_84 ?_
      refine nv_top (y := lN 4) (by decide) ?_
      refine lv_lload_n hx hb d_Exact_expand_87 rfl (lv_at hl 2 rfl) ?_
      refine nv_lmul hx hb d_Exact_expand_88 ?_
      refine kw_v (wr := [(h0, .inr (3, [.ref qa, .ref qs, .int (iZ (exSc sg z))]))]) (tr := []) (kr_V (C0 := R_Big) (ci := 2) (i0 := 0) (As := [.ref qa, .long (lN (4 * sg))]) (rest := []) C0 (c_Big_setToProduct l D Z _ qs lz cAs fs ns qa la cAa fa1 na1 (exQ sg z) (4 * sg) (hq73) (by omega) (exQ_room hz (by omega))) q_y_Big_setToProduct kw_57_ kw_58_ kw_59_ kw_24_ hd_y_Big_setToProduct rfl rfl ⟨Nat.le_of_ble_eq_true rfl, Nat.le_of_ble_eq_true rfl⟩ (hP.sub (ws' := [(qs, .inr (2, [.ref lz, .int (iZ (((ns : Nat) : Int)))])), (lz, .inl (cAs, 124, .inr (.inl fs))), (qa, .inr (2, [.ref la, .int (iZ (((na1 : Nat) : Int)))])), (la, .inl (cAa, 124, .inr (.inl fa1)))]) [1, 2, 3, 4] rfl) (hD.sub (ws' := [(qs, .inr (2, [.ref lz, .int (iZ (((ns : Nat) : Int)))])), (lz, .inl (cAs, 124, .inr (.inl fs))), (qa, .inr (2, [.ref la, .int (iZ (((na1 : Nat) : Int)))])), (la, .inl (cAa, 124, .inr (.inl fa1)))]) [1, 2, 3, 4] (by decide) rfl) (hK.sub (tys' := [(cAs, .long), (cAa, .long)]) [0, 1] rfl) hE hS (va_free (wc := [(qs, .inr (2, [.ref lz, .int (iZ (((ns : Nat) : Int)))])), (lz, .inl (cAs, 124, .inr (.inl fs))), (qa, .inr (2, [.ref la, .int (iZ (((na1 : Nat) : Int)))])), (la, .inl (cAa, 124, .inr (.inl fa1)))]) hD hS hA [1, 2, 3, 4] rfl) rfl rfl rfl hl.1 rfl (Nat.le_of_ble_eq_true rfl) d_Exact_expand_89 ⟨Nat.le_of_ble_eq_true rfl, Nat.le_of_ble_eq_true rfl⟩) hP hD hK hS hA [1, 2, 3, 4] [0] [] rfl rfl (by decide) (by decide) rfl (fun u H locs hpost hP hD hK hS => ?_)
      obtain ⟨fs1, ns1⟩ := u
      have hq89 : BigIs fs1 ns1 ((exQ sg z) * (4 * sg)) := hpost
      have hP : va_P D classes [(h0, .inr (3, [.ref qa, .ref qs, .int (iZ (exSc sg z))])), (qs, .inr (2, [.ref lz, .int (iZ (((ns1 : Nat) : Int)))])), (lz, .inl (cAs, 124, .inr (.inl fs1))), (qa, .inr (2, [.ref la, .int (iZ (((na1 : Nat) : Int)))])), (la, .inl (cAa, 124, .inr (.inl fa1)))] H := hP
      have hD : va_D A [(h0, .inr (3, [.ref qa, .ref qs, .int (iZ (exSc sg z))])), (qs, .inr (2, [.ref lz, .int (iZ (((ns1 : Nat) : Int)))])), (lz, .inl (cAs, 124, .inr (.inl fs1))), (qa, .inr (2, [.ref la, .int (iZ (((na1 : Nat) : Int)))])), (la, .inl (cAa, 124, .inr (.inl fa1)))] := hD
      have hK : va_K D classes [(cAs, .long), (cAa, .long)] s := hK
      exact ew_v (fa1, na1, fs1, ns1) hx hb hr hlocks d_Exact_expand_92 (show BigIs fa1 na1 (exQ sg z) ∧ BigIs fs1 ns1 (exQ sg z * (4 * sg)) from ⟨hq73, hq89⟩) (hP.sub (ws' := [(h0, .inr (3, [.ref qa, .ref qs, .int (iZ (exSc sg z))])), (qa, .inr (2, [.ref la, .int (iZ (((na1 : Nat) : Int)))])), (la, .inl (cAa, 124, .inr (.inl fa1))), (qs, .inr (2, [.ref lz, .int (iZ (((ns1 : Nat) : Int)))])), (lz, .inl (cAs, 124, .inr (.inl fs1)))]) [0, 3, 4, 1, 2] rfl) (hD.sub (ws' := [(h0, .inr (3, [.ref qa, .ref qs, .int (iZ (exSc sg z))])), (qa, .inr (2, [.ref la, .int (iZ (((na1 : Nat) : Int)))])), (la, .inl (cAa, 124, .inr (.inl fa1))), (qs, .inr (2, [.ref lz, .int (iZ (((ns1 : Nat) : Int)))])), (lz, .inl (cAs, 124, .inr (.inl fs1)))]) [0, 3, 4, 1, 2] (by decide) rfl) (hK.sub (tys' := [(cAa, .long), (cAs, .long)]) [1, 0] rfl) hS (Nat.le_of_ble_eq_true rfl) (Nat.le_of_ble_eq_true rfl)
abbrev Qc_Exact_setToQuarters (D : va_G) (h0 : Nat) (qa : Nat) (la : Nat) (qs : Nat) (lz : Nat) (cAa : ClassId) (cAs : ClassId) (fa : Nat → Int64) (na : Nat) (fs : Nat → Int64) (ns : Nat) (sc : Int) (h1 : Nat) (q1 : Nat) (cA1 : ClassId) (f2 : Nat → Int64) (n2 : Nat) (v : Nat) (F : Nat) (A : Nat → Prop) : Array Value → State → Outcome → State → Prop := va_Qv (fun u : (Nat → Int64) × Nat => BigIs (u.1) (u.2) (v * F)) (fun (u : (Nat → Int64) × Nat) t9 => cpost D A [(h0, .inr (3, [.ref qa, .ref qs, .int (iZ (sc))])), (qa, .inr (2, [.ref la, .int (iZ (((na : Nat) : Int)))])), (la, .inl (cAa, 124, .inr (.inl fa))), (qs, .inr (2, [.ref lz, .int (iZ (((ns : Nat) : Int)))])), (lz, .inl (cAs, 124, .inr (.inl fs))), (h1, .inr (2, [.ref q1, .int (iZ ((((u.2) : Nat) : Int)))])), (q1, .inl (cA1, 124, .inr (.inl ((u.1)))))] [(cAa, .long), (cAs, .long), (cA1, .long)] t9) A
set_option maxHeartbeats 4000000 in
set_option maxRecDepth 100000 in
theorem c_Exact_setToQuarters (l : Launch) (D : va_G) (Z : Nat → Nat) (hz9 : Nat) (h0 : Nat) (qa : Nat) (la : Nat) (qs : Nat) (lz : Nat) (cAa : ClassId) (cAs : ClassId) (fa : Nat → Int64) (na : Nat) (fs : Nat → Int64) (ns : Nat) (sc : Int) (h1 : Nat) (q1 : Nat) (cA1 : ClassId) (f2 : Nat → Int64) (n2 : Nat) (v : Nat) (F : Nat) (hB : BigIs fa na v) (hF : F ≤ 1000000000000000000) (hvF : v * F < 1000000000 ^ 124) : Met l y_Exact_setToQuarters (.code y_Exact_setToQuarters b_Exact_setToQuarters 4 none :: gT) ({ frames := 3, cells := 0, slots := 0, locals := 81 } : Room) (va_Pc [.ref h0, .ref h1, .long (lN (F))] (cpre D Z [(h0, .inr (3, [.ref qa, .ref qs, .int (iZ (sc))])), (qa, .inr (2, [.ref la, .int (iZ (((na : Nat) : Int)))])), (la, .inl (cAa, 124, .inr (.inl fa))), (qs, .inr (2, [.ref lz, .int (iZ (((ns : Nat) : Int)))])), (lz, .inl (cAs, 124, .inr (.inl fs))), (h1, .inr (2, [.ref q1, .int (iZ (((n2 : Nat) : Int)))])), (q1, .inl (cA1, 124, .inr (.inl f2)))] [(cAa, .long), (cAs, .long), (cA1, .long)] hz9)) (Qc_Exact_setToQuarters D h0 qa la qs lz cAa cAs fa na fs ns sc h1 q1 cA1 f2 n2 v F (va_A [(h0, .inr (3, [.ref qa, .ref qs, .int (iZ (sc))])), (qa, .inr (2, [.ref la, .int (iZ (((na : Nat) : Int)))])), (la, .inl (cAa, 124, .inr (.inl fa))), (qs, .inr (2, [.ref lz, .int (iZ (((ns : Nat) : Int)))])), (lz, .inl (cAs, 124, .inr (.inl fs))), (h1, .inr (2, [.ref q1, .int (iZ (((n2 : Nat) : Int)))])), (q1, .inl (cA1, 124, .inr (.inl f2)))] hz9)) 0 0 (va_A [(h0, .inr (3, [.ref qa, .ref qs, .int (iZ (sc))])), (qa, .inr (2, [.ref la, .int (iZ (((na : Nat) : Int)))])), (la, .inl (cAa, 124, .inr (.inl fa))), (qs, .inr (2, [.ref lz, .int (iZ (((ns : Nat) : Int)))])), (lz, .inl (cAs, 124, .inr (.inl fs))), (h1, .inr (2, [.ref q1, .int (iZ (((n2 : Nat) : Int)))])), (q1, .inl (cA1, 124, .inr (.inl f2)))] hz9) := by
  refine met_go (Qf := Qc_Exact_setToQuarters D h0 qa la qs lz cAa cAs fa na fs ns sc h1 q1 cA1 f2 n2 v F) (ff := fun A => A) (by decide) ?_
  intro p e s m below meth c A C0 hin hsz9 hA hE hK hP hD
  obtain ⟨hx, hb, hml, hown, hts, hr, hlocks⟩ := id C0
  have hS : va_S A s.heap s.heap [] := va_S.rf
  have hl := lv_entry [.ref h0, .ref h1, .long (lN (F))] (n := 4) (Nat.le_of_ble_eq_true rfl)
  rw [lg_entry_eq]
  generalize (lg_sl [.ref h0, .ref h1, .long (lN (F))] ++ List.replicate (4 - (lg_sl [.ref h0, .ref h1, .long (lN (F))]).length) Slot.unset).toArray = ls at hl ⊢
  have hl : lv_has ls 4 [(0, .ref h0), (1, .ref h1), (2, .long (lN (F)))] := hl
  refine lv_aload_n hx hb d_Exact_setToQuarters_0 rfl (lv_at hl 1 rfl) ?_
  refine lv_aload_n hx hb d_Exact_setToQuarters_1 rfl (lv_at hl 0 rfl) ?_
  refine va_get (D := D) (ci := 3) (v := .ref qa) (C := R_Exact) (T := F_Exact) (N := 3) hx hb hts i_Exact hown hK hP 0 rfl rfl 0 (by decide) (hts _ kw_46_) (fun _ h9 => h9) rfl d_Exact_setToQuarters_2 ?_
  refine lv_lload_n hx hb d_Exact_setToQuarters_5 rfl (lv_at hl 2 rfl) ?_
  refine kw_v (wr := [(h0, .inr (3, [.ref qa, .ref qs, .int (iZ (sc))])), (qs, .inr (2, [.ref lz, .int (iZ (((ns : Nat) : Int)))])), (lz, .inl (cAs, 124, .inr (.inl fs)))]) (tr := [(cAs, .long)]) (kr_V (C0 := R_Big) (ci := 2) (i0 := 0) (As := [.ref qa, .long (lN (F))]) (rest := []) C0 (c_Big_setToProduct l D Z _ h1 q1 cA1 f2 n2 qa la cAa fa na v F (by assumption) (by omega) (by assumption)) q_y_Big_setToProduct kw_57_ kw_58_ kw_59_ kw_24_ hd_y_Big_setToProduct rfl rfl ⟨Nat.le_of_ble_eq_true rfl, Nat.le_of_ble_eq_true rfl⟩ (hP.sub (ws' := [(h1, .inr (2, [.ref q1, .int (iZ (((n2 : Nat) : Int)))])), (q1, .inl (cA1, 124, .inr (.inl f2))), (qa, .inr (2, [.ref la, .int (iZ (((na : Nat) : Int)))])), (la, .inl (cAa, 124, .inr (.inl fa)))]) [5, 6, 1, 2] rfl) (hD.sub (ws' := [(h1, .inr (2, [.ref q1, .int (iZ (((n2 : Nat) : Int)))])), (q1, .inl (cA1, 124, .inr (.inl f2))), (qa, .inr (2, [.ref la, .int (iZ (((na : Nat) : Int)))])), (la, .inl (cAa, 124, .inr (.inl fa)))]) [5, 6, 1, 2] (by decide) rfl) (hK.sub (tys' := [(cA1, .long), (cAa, .long)]) [2, 0] rfl) hE hS (va_free (wc := [(h1, .inr (2, [.ref q1, .int (iZ (((n2 : Nat) : Int)))])), (q1, .inl (cA1, 124, .inr (.inl f2))), (qa, .inr (2, [.ref la, .int (iZ (((na : Nat) : Int)))])), (la, .inl (cAa, 124, .inr (.inl fa)))]) hD hS hA [5, 6, 1, 2] rfl) rfl rfl rfl hl.1 rfl (Nat.le_of_ble_eq_true rfl) d_Exact_setToQuarters_6 ⟨Nat.le_of_ble_eq_true rfl, Nat.le_of_ble_eq_true rfl⟩) hP hD hK hS hA [5, 6, 1, 2] [0, 3, 4] [1] rfl rfl (by decide) (by decide) rfl (fun u H locs hpost hP hD hK hS => ?_)
  obtain ⟨f1, n1⟩ := u
  have hw6 : BigIs f1 n1 (v * F) := hpost
  have hP : va_P D classes [(h0, .inr (3, [.ref qa, .ref qs, .int (iZ (sc))])), (qs, .inr (2, [.ref lz, .int (iZ (((ns : Nat) : Int)))])), (lz, .inl (cAs, 124, .inr (.inl fs))), (h1, .inr (2, [.ref q1, .int (iZ (((n1 : Nat) : Int)))])), (q1, .inl (cA1, 124, .inr (.inl f1))), (qa, .inr (2, [.ref la, .int (iZ (((na : Nat) : Int)))])), (la, .inl (cAa, 124, .inr (.inl fa)))] H := hP
  have hD : va_D A [(h0, .inr (3, [.ref qa, .ref qs, .int (iZ (sc))])), (qs, .inr (2, [.ref lz, .int (iZ (((ns : Nat) : Int)))])), (lz, .inl (cAs, 124, .inr (.inl fs))), (h1, .inr (2, [.ref q1, .int (iZ (((n1 : Nat) : Int)))])), (q1, .inl (cA1, 124, .inr (.inl f1))), (qa, .inr (2, [.ref la, .int (iZ (((na : Nat) : Int)))])), (la, .inl (cAa, 124, .inr (.inl fa)))] := hD
  have hK : va_K D classes [(cAs, .long), (cA1, .long), (cAa, .long)] s := hK
  exact ew_v (f1, n1) hx hb hr hlocks d_Exact_setToQuarters_9 (show BigIs f1 n1 (v * F) from hw6) (hP.sub (ws' := [(h0, .inr (3, [.ref qa, .ref qs, .int (iZ (sc))])), (qa, .inr (2, [.ref la, .int (iZ (((na : Nat) : Int)))])), (la, .inl (cAa, 124, .inr (.inl fa))), (qs, .inr (2, [.ref lz, .int (iZ (((ns : Nat) : Int)))])), (lz, .inl (cAs, 124, .inr (.inl fs))), (h1, .inr (2, [.ref q1, .int (iZ (((n1 : Nat) : Int)))])), (q1, .inl (cA1, 124, .inr (.inl f1)))]) [0, 5, 6, 1, 2, 3, 4] rfl) (hD.sub (ws' := [(h0, .inr (3, [.ref qa, .ref qs, .int (iZ (sc))])), (qa, .inr (2, [.ref la, .int (iZ (((na : Nat) : Int)))])), (la, .inl (cAa, 124, .inr (.inl fa))), (qs, .inr (2, [.ref lz, .int (iZ (((ns : Nat) : Int)))])), (lz, .inl (cAs, 124, .inr (.inl fs))), (h1, .inr (2, [.ref q1, .int (iZ (((n1 : Nat) : Int)))])), (q1, .inl (cA1, 124, .inr (.inl f1)))]) [0, 5, 6, 1, 2, 3, 4] (by decide) rfl) (hK.sub (tys' := [(cAa, .long), (cAs, .long), (cA1, .long)]) [2, 0, 1] rfl) hS (Nat.le_of_ble_eq_true rfl) (Nat.le_of_ble_eq_true rfl)
abbrev Qc_Exact_scale (D : va_G) (h0 : Nat) (qa : Nat) (la : Nat) (qs : Nat) (lz : Nat) (cAa : ClassId) (cAs : ClassId) (fa : Nat → Int64) (na : Nat) (fs : Nat → Int64) (ns : Nat) (sc : Int) (A : Nat → Prop) : Array Value → State → Outcome → State → Prop := vp_Si (fun r : Int32 => r = iZ (sc))
set_option maxHeartbeats 4000000 in
set_option maxRecDepth 100000 in
theorem c_Exact_scale (l : Launch) (D : va_G) (Z : Nat → Nat) (hz9 : Nat) (h0 : Nat) (qa : Nat) (la : Nat) (qs : Nat) (lz : Nat) (cAa : ClassId) (cAs : ClassId) (fa : Nat → Int64) (na : Nat) (fs : Nat → Int64) (ns : Nat) (sc : Int)  : Met l y_Exact_scale (.code y_Exact_scale b_Exact_scale 1 (some .int) :: gT) ({ frames := 0, cells := 0, slots := 0, locals := 0 } : Room) (va_Pc [.ref h0] (cpre D Z [(h0, .inr (3, [.ref qa, .ref qs, .int (iZ (sc))])), (qa, .inr (2, [.ref la, .int (iZ (((na : Nat) : Int)))])), (la, .inl (cAa, 124, .inr (.inl fa))), (qs, .inr (2, [.ref lz, .int (iZ (((ns : Nat) : Int)))])), (lz, .inl (cAs, 124, .inr (.inl fs)))] [(cAa, .long), (cAs, .long)] hz9)) (Qc_Exact_scale D h0 qa la qs lz cAa cAs fa na fs ns sc (va_A [(h0, .inr (3, [.ref qa, .ref qs, .int (iZ (sc))])), (qa, .inr (2, [.ref la, .int (iZ (((na : Nat) : Int)))])), (la, .inl (cAa, 124, .inr (.inl fa))), (qs, .inr (2, [.ref lz, .int (iZ (((ns : Nat) : Int)))])), (lz, .inl (cAs, 124, .inr (.inl fs)))] hz9)) 0 0 (fun _ => False) := by
  refine met_go (Qf := Qc_Exact_scale D h0 qa la qs lz cAa cAs fa na fs ns sc) (ff := fun _ _ => False) (by decide) ?_
  intro p e s m below meth c A C0 hin hsz9 hA hE hK hP hD
  obtain ⟨hx, hb, hml, hown, hts, hr, hlocks⟩ := id C0
  have hS : va_S A s.heap s.heap [] := va_S.rf
  have hl := lv_entry [.ref h0] (n := 1) (Nat.le_of_ble_eq_true rfl)
  rw [lg_entry_eq]
  generalize (lg_sl [.ref h0] ++ List.replicate (1 - (lg_sl [.ref h0]).length) Slot.unset).toArray = ls at hl ⊢
  have hl : lv_has ls 1 [(0, .ref h0)] := hl
  refine lv_aload_n hx hb d_Exact_scale_0 rfl (lv_at hl 0 rfl) ?_
  refine va_get (D := D) (ci := 3) (v := .int (iZ (sc))) (C := R_Exact) (T := F_Exact) (N := 3) hx hb hts i_Exact hown hK hP 0 rfl rfl 2 (by decide) (hts _ kw_48_) (fun _ h9 => h9) rfl d_Exact_scale_1 ?_
  exact er_i hx hb hr hlocks d_Exact_scale_4 (show iZ (sc) = iZ (sc) from rfl)
abbrev Qc_Exact_isZero (D : va_G) (h0 : Nat) (qa : Nat) (la : Nat) (qs : Nat) (lz : Nat) (cAa : ClassId) (cAs : ClassId) (fa : Nat → Int64) (na : Nat) (fs : Nat → Int64) (ns : Nat) (sc : Int) (v : Nat) (A : Nat → Prop) : Array Value → State → Outcome → State → Prop := vp_Si (fun r : Int32 => r = bZ (v = 0))
set_option maxHeartbeats 4000000 in
set_option maxRecDepth 100000 in
theorem c_Exact_isZero (l : Launch) (D : va_G) (Z : Nat → Nat) (hz9 : Nat) (h0 : Nat) (qa : Nat) (la : Nat) (qs : Nat) (lz : Nat) (cAa : ClassId) (cAs : ClassId) (fa : Nat → Int64) (na : Nat) (fs : Nat → Int64) (ns : Nat) (sc : Int) (v : Nat) (hB : BigIs fs ns v) : Met l y_Exact_isZero (.code y_Exact_isZero b_Exact_isZero 1 (some .boolean) :: gT) ({ frames := 1, cells := 0, slots := 0, locals := 20 } : Room) (va_Pc [.ref h0] (cpre D Z [(h0, .inr (3, [.ref qa, .ref qs, .int (iZ (sc))])), (qa, .inr (2, [.ref la, .int (iZ (((na : Nat) : Int)))])), (la, .inl (cAa, 124, .inr (.inl fa))), (qs, .inr (2, [.ref lz, .int (iZ (((ns : Nat) : Int)))])), (lz, .inl (cAs, 124, .inr (.inl fs)))] [(cAa, .long), (cAs, .long)] hz9)) (Qc_Exact_isZero D h0 qa la qs lz cAa cAs fa na fs ns sc v (va_A [(h0, .inr (3, [.ref qa, .ref qs, .int (iZ (sc))])), (qa, .inr (2, [.ref la, .int (iZ (((na : Nat) : Int)))])), (la, .inl (cAa, 124, .inr (.inl fa))), (qs, .inr (2, [.ref lz, .int (iZ (((ns : Nat) : Int)))])), (lz, .inl (cAs, 124, .inr (.inl fs)))] hz9)) 0 0 (fun _ => False) := by
  refine met_go (Qf := Qc_Exact_isZero D h0 qa la qs lz cAa cAs fa na fs ns sc v) (ff := fun _ _ => False) (by decide) ?_
  intro p e s m below meth c A C0 hin hsz9 hA hE hK hP hD
  obtain ⟨hx, hb, hml, hown, hts, hr, hlocks⟩ := id C0
  have hS : va_S A s.heap s.heap [] := va_S.rf
  have hl := lv_entry [.ref h0] (n := 1) (Nat.le_of_ble_eq_true rfl)
  rw [lg_entry_eq]
  generalize (lg_sl [.ref h0] ++ List.replicate (1 - (lg_sl [.ref h0]).length) Slot.unset).toArray = ls at hl ⊢
  have hl : lv_has ls 1 [(0, .ref h0)] := hl
  refine lv_aload_n hx hb d_Exact_isZero_0 rfl (lv_at hl 0 rfl) ?_
  refine va_get (D := D) (ci := 3) (v := .ref qs) (C := R_Exact) (T := F_Exact) (N := 3) hx hb hts i_Exact hown hK hP 0 rfl rfl 1 (by decide) (hts _ kw_47_) (fun _ h9 => h9) rfl d_Exact_isZero_1 ?_
  refine kg_i (kr_V (C0 := R_Big) (ci := 2) (i0 := 0) (As := []) (rest := []) C0 (c_Big_isZero l D Z _ qs lz cAs fs ns v (by assumption)) q_y_Big_isZero kw_63_ kw_64_ kw_65_ kw_24_ hd_y_Big_isZero rfl rfl ⟨Nat.le_of_ble_eq_true rfl, Nat.le_of_ble_eq_true rfl⟩ (hP.sub (ws' := [(qs, .inr (2, [.ref lz, .int (iZ (((ns : Nat) : Int)))])), (lz, .inl (cAs, 124, .inr (.inl fs)))]) [3, 4] rfl) (hD.sub (ws' := [(qs, .inr (2, [.ref lz, .int (iZ (((ns : Nat) : Int)))])), (lz, .inl (cAs, 124, .inr (.inl fs)))]) [3, 4] (by decide) rfl) (hK.sub (tys' := [(cAs, .long)]) [1] rfl) hE hS (va_free (wc := [(qs, .inr (2, [.ref lz, .int (iZ (((ns : Nat) : Int)))])), (lz, .inl (cAs, 124, .inr (.inl fs)))]) hD hS hA [3, 4] rfl) rfl rfl rfl hl.1 rfl (Nat.le_of_ble_eq_true rfl) d_Exact_isZero_4 ⟨Nat.le_of_ble_eq_true rfl, Nat.le_of_ble_eq_true rfl⟩) (fun r hr1 => ?_)
  obtain rfl : r = bZ (v = 0) := hr1
  exact er_z hx hb hr hlocks (bZ_nar) d_Exact_isZero_7 (show bZ (v = 0) = bZ (v = 0) from rfl)
abbrev Qc_Exact_figureCount (D : va_G) (h0 : Nat) (qa : Nat) (la : Nat) (qs : Nat) (lz : Nat) (cAa : ClassId) (cAs : ClassId) (fa : Nat → Int64) (na : Nat) (fs : Nat → Int64) (ns : Nat) (sc : Int) (v : Nat) (A : Nat → Prop) : Array Value → State → Outcome → State → Prop := vp_Si (fun r : Int32 => r = iZ (((nfig v : Nat) : Int)))
set_option maxHeartbeats 4000000 in
set_option maxRecDepth 100000 in
theorem c_Exact_figureCount (l : Launch) (D : va_G) (Z : Nat → Nat) (hz9 : Nat) (h0 : Nat) (qa : Nat) (la : Nat) (qs : Nat) (lz : Nat) (cAa : ClassId) (cAs : ClassId) (fa : Nat → Int64) (na : Nat) (fs : Nat → Int64) (ns : Nat) (sc : Int) (v : Nat) (hB : BigIs fs ns v) : Met l y_Exact_figureCount (.code y_Exact_figureCount b_Exact_figureCount 1 (some .int) :: gT) ({ frames := 2, cells := 0, slots := 0, locals := 41 } : Room) (va_Pc [.ref h0] (cpre D Z [(h0, .inr (3, [.ref qa, .ref qs, .int (iZ (sc))])), (qa, .inr (2, [.ref la, .int (iZ (((na : Nat) : Int)))])), (la, .inl (cAa, 124, .inr (.inl fa))), (qs, .inr (2, [.ref lz, .int (iZ (((ns : Nat) : Int)))])), (lz, .inl (cAs, 124, .inr (.inl fs)))] [(cAa, .long), (cAs, .long)] hz9)) (Qc_Exact_figureCount D h0 qa la qs lz cAa cAs fa na fs ns sc v (va_A [(h0, .inr (3, [.ref qa, .ref qs, .int (iZ (sc))])), (qa, .inr (2, [.ref la, .int (iZ (((na : Nat) : Int)))])), (la, .inl (cAa, 124, .inr (.inl fa))), (qs, .inr (2, [.ref lz, .int (iZ (((ns : Nat) : Int)))])), (lz, .inl (cAs, 124, .inr (.inl fs)))] hz9)) 0 0 (fun _ => False) := by
  refine met_go (Qf := Qc_Exact_figureCount D h0 qa la qs lz cAa cAs fa na fs ns sc v) (ff := fun _ _ => False) (by decide) ?_
  intro p e s m below meth c A C0 hin hsz9 hA hE hK hP hD
  obtain ⟨hx, hb, hml, hown, hts, hr, hlocks⟩ := id C0
  have hS : va_S A s.heap s.heap [] := va_S.rf
  have hl := lv_entry [.ref h0] (n := 1) (Nat.le_of_ble_eq_true rfl)
  rw [lg_entry_eq]
  generalize (lg_sl [.ref h0] ++ List.replicate (1 - (lg_sl [.ref h0]).length) Slot.unset).toArray = ls at hl ⊢
  have hl : lv_has ls 1 [(0, .ref h0)] := hl
  refine lv_aload_n hx hb d_Exact_figureCount_0 rfl (lv_at hl 0 rfl) ?_
  refine va_get (D := D) (ci := 3) (v := .ref qs) (C := R_Exact) (T := F_Exact) (N := 3) hx hb hts i_Exact hown hK hP 0 rfl rfl 1 (by decide) (hts _ kw_47_) (fun _ h9 => h9) rfl d_Exact_figureCount_1 ?_
  refine kg_i (kr_V (C0 := R_Big) (ci := 2) (i0 := 0) (As := []) (rest := []) C0 (c_Big_figureCount l D Z _ qs lz cAs fs ns v (by assumption)) q_y_Big_figureCount kw_66_ kw_67_ kw_68_ kw_24_ hd_y_Big_figureCount rfl rfl ⟨Nat.le_of_ble_eq_true rfl, Nat.le_of_ble_eq_true rfl⟩ (hP.sub (ws' := [(qs, .inr (2, [.ref lz, .int (iZ (((ns : Nat) : Int)))])), (lz, .inl (cAs, 124, .inr (.inl fs)))]) [3, 4] rfl) (hD.sub (ws' := [(qs, .inr (2, [.ref lz, .int (iZ (((ns : Nat) : Int)))])), (lz, .inl (cAs, 124, .inr (.inl fs)))]) [3, 4] (by decide) rfl) (hK.sub (tys' := [(cAs, .long)]) [1] rfl) hE hS (va_free (wc := [(qs, .inr (2, [.ref lz, .int (iZ (((ns : Nat) : Int)))])), (lz, .inl (cAs, 124, .inr (.inl fs)))]) hD hS hA [3, 4] rfl) rfl rfl rfl hl.1 rfl (Nat.le_of_ble_eq_true rfl) d_Exact_figureCount_4 ⟨Nat.le_of_ble_eq_true rfl, Nat.le_of_ble_eq_true rfl⟩) (fun r hr1 => ?_)
  obtain rfl : r = iZ (((nfig v : Nat) : Int)) := hr1
  exact er_i hx hb hr hlocks d_Exact_figureCount_7 (show iZ (((nfig v : Nat) : Int)) = iZ (((nfig v : Nat) : Int)) from rfl)
abbrev Qc_Exact_figureAt (D : va_G) (h0 : Nat) (qa : Nat) (la : Nat) (qs : Nat) (lz : Nat) (cAa : ClassId) (cAs : ClassId) (fa : Nat → Int64) (na : Nat) (fs : Nat → Int64) (ns : Nat) (sc : Int) (v : Nat) (z : Int) (A : Nat → Prop) : Array Value → State → Outcome → State → Prop := vp_Si (fun r : Int32 => r = iZ (((figAt v z : Nat) : Int)))
set_option maxHeartbeats 4000000 in
set_option maxRecDepth 100000 in
theorem c_Exact_figureAt (l : Launch) (D : va_G) (Z : Nat → Nat) (hz9 : Nat) (h0 : Nat) (qa : Nat) (la : Nat) (qs : Nat) (lz : Nat) (cAa : ClassId) (cAs : ClassId) (fa : Nat → Int64) (na : Nat) (fs : Nat → Int64) (ns : Nat) (sc : Int) (v : Nat) (z : Int) (hB : BigIs fs ns v) (hz : -2147483648 ≤ z ∧ z < 2147483648) : Met l y_Exact_figureAt (.code y_Exact_figureAt b_Exact_figureAt 2 (some .int) :: gT) ({ frames := 2, cells := 0, slots := 0, locals := 44 } : Room) (va_Pc [.ref h0, .int (iZ (z))] (cpre D Z [(h0, .inr (3, [.ref qa, .ref qs, .int (iZ (sc))])), (qa, .inr (2, [.ref la, .int (iZ (((na : Nat) : Int)))])), (la, .inl (cAa, 124, .inr (.inl fa))), (qs, .inr (2, [.ref lz, .int (iZ (((ns : Nat) : Int)))])), (lz, .inl (cAs, 124, .inr (.inl fs)))] [(cAa, .long), (cAs, .long)] hz9)) (Qc_Exact_figureAt D h0 qa la qs lz cAa cAs fa na fs ns sc v z (va_A [(h0, .inr (3, [.ref qa, .ref qs, .int (iZ (sc))])), (qa, .inr (2, [.ref la, .int (iZ (((na : Nat) : Int)))])), (la, .inl (cAa, 124, .inr (.inl fa))), (qs, .inr (2, [.ref lz, .int (iZ (((ns : Nat) : Int)))])), (lz, .inl (cAs, 124, .inr (.inl fs)))] hz9)) 0 0 (fun _ => False) := by
  refine met_go (Qf := Qc_Exact_figureAt D h0 qa la qs lz cAa cAs fa na fs ns sc v z) (ff := fun _ _ => False) (by decide) ?_
  intro p e s m below meth c A C0 hin hsz9 hA hE hK hP hD
  obtain ⟨hx, hb, hml, hown, hts, hr, hlocks⟩ := id C0
  have hS : va_S A s.heap s.heap [] := va_S.rf
  have hl := lv_entry [.ref h0, .int (iZ (z))] (n := 2) (Nat.le_of_ble_eq_true rfl)
  rw [lg_entry_eq]
  generalize (lg_sl [.ref h0, .int (iZ (z))] ++ List.replicate (2 - (lg_sl [.ref h0, .int (iZ (z))]).length) Slot.unset).toArray = ls at hl ⊢
  have hl : lv_has ls 2 [(0, .ref h0), (1, .int (iZ (z)))] := hl
  refine lv_aload_n hx hb d_Exact_figureAt_0 rfl (lv_at hl 0 rfl) ?_
  refine va_get (D := D) (ci := 3) (v := .ref qs) (C := R_Exact) (T := F_Exact) (N := 3) hx hb hts i_Exact hown hK hP 0 rfl rfl 1 (by decide) (hts _ kw_47_) (fun _ h9 => h9) rfl d_Exact_figureAt_1 ?_
  refine lv_iload_n hx hb d_Exact_figureAt_4 rfl (lv_at hl 1 rfl) ?_
  refine kg_i (kr_V (C0 := R_Big) (ci := 2) (i0 := 0) (As := [.int (iZ (z))]) (rest := []) C0 (c_Big_figureAt l D Z _ qs lz cAs fs ns v z (by assumption) (by omega)) q_y_Big_figureAt kw_69_ kw_70_ kw_71_ kw_24_ hd_y_Big_figureAt rfl rfl ⟨Nat.le_of_ble_eq_true rfl, Nat.le_of_ble_eq_true rfl⟩ (hP.sub (ws' := [(qs, .inr (2, [.ref lz, .int (iZ (((ns : Nat) : Int)))])), (lz, .inl (cAs, 124, .inr (.inl fs)))]) [3, 4] rfl) (hD.sub (ws' := [(qs, .inr (2, [.ref lz, .int (iZ (((ns : Nat) : Int)))])), (lz, .inl (cAs, 124, .inr (.inl fs)))]) [3, 4] (by decide) rfl) (hK.sub (tys' := [(cAs, .long)]) [1] rfl) hE hS (va_free (wc := [(qs, .inr (2, [.ref lz, .int (iZ (((ns : Nat) : Int)))])), (lz, .inl (cAs, 124, .inr (.inl fs)))]) hD hS hA [3, 4] rfl) rfl rfl rfl hl.1 rfl (Nat.le_of_ble_eq_true rfl) d_Exact_figureAt_5 ⟨Nat.le_of_ble_eq_true rfl, Nat.le_of_ble_eq_true rfl⟩) (fun r hr1 => ?_)
  obtain rfl : r = iZ (((figAt v z : Nat) : Int)) := hr1
  exact er_i hx hb hr hlocks d_Exact_figureAt_8 (show iZ (((figAt v z : Nat) : Int)) = iZ (((figAt v z : Nat) : Int)) from rfl)
abbrev Qc_Exact_hasAnyBelow (D : va_G) (h0 : Nat) (qa : Nat) (la : Nat) (qs : Nat) (lz : Nat) (cAa : ClassId) (cAs : ClassId) (fa : Nat → Int64) (na : Nat) (fs : Nat → Int64) (ns : Nat) (sc : Int) (v : Nat) (k : Nat) (A : Nat → Prop) : Array Value → State → Outcome → State → Prop := vp_Si (fun r : Int32 => r = bZ (¬ v % 10 ^ k = 0))
set_option maxHeartbeats 4000000 in
set_option maxRecDepth 100000 in
theorem c_Exact_hasAnyBelow (l : Launch) (D : va_G) (Z : Nat → Nat) (hz9 : Nat) (h0 : Nat) (qa : Nat) (la : Nat) (qs : Nat) (lz : Nat) (cAa : ClassId) (cAs : ClassId) (fa : Nat → Int64) (na : Nat) (fs : Nat → Int64) (ns : Nat) (sc : Int) (v : Nat) (k : Nat) (hB : BigIs fs ns v) (hk : k < 2147483648) : Met l y_Exact_hasAnyBelow (.code y_Exact_hasAnyBelow b_Exact_hasAnyBelow 2 (some .boolean) :: gT) ({ frames := 2, cells := 0, slots := 0, locals := 44 } : Room) (va_Pc [.ref h0, .int (iZ (((k : Nat) : Int)))] (cpre D Z [(h0, .inr (3, [.ref qa, .ref qs, .int (iZ (sc))])), (qa, .inr (2, [.ref la, .int (iZ (((na : Nat) : Int)))])), (la, .inl (cAa, 124, .inr (.inl fa))), (qs, .inr (2, [.ref lz, .int (iZ (((ns : Nat) : Int)))])), (lz, .inl (cAs, 124, .inr (.inl fs)))] [(cAa, .long), (cAs, .long)] hz9)) (Qc_Exact_hasAnyBelow D h0 qa la qs lz cAa cAs fa na fs ns sc v k (va_A [(h0, .inr (3, [.ref qa, .ref qs, .int (iZ (sc))])), (qa, .inr (2, [.ref la, .int (iZ (((na : Nat) : Int)))])), (la, .inl (cAa, 124, .inr (.inl fa))), (qs, .inr (2, [.ref lz, .int (iZ (((ns : Nat) : Int)))])), (lz, .inl (cAs, 124, .inr (.inl fs)))] hz9)) 0 0 (fun _ => False) := by
  refine met_go (Qf := Qc_Exact_hasAnyBelow D h0 qa la qs lz cAa cAs fa na fs ns sc v k) (ff := fun _ _ => False) (by decide) ?_
  intro p e s m below meth c A C0 hin hsz9 hA hE hK hP hD
  obtain ⟨hx, hb, hml, hown, hts, hr, hlocks⟩ := id C0
  have hS : va_S A s.heap s.heap [] := va_S.rf
  have hl := lv_entry [.ref h0, .int (iZ (((k : Nat) : Int)))] (n := 2) (Nat.le_of_ble_eq_true rfl)
  rw [lg_entry_eq]
  generalize (lg_sl [.ref h0, .int (iZ (((k : Nat) : Int)))] ++ List.replicate (2 - (lg_sl [.ref h0, .int (iZ (((k : Nat) : Int)))]).length) Slot.unset).toArray = ls at hl ⊢
  have hl : lv_has ls 2 [(0, .ref h0), (1, .int (iZ (((k : Nat) : Int))))] := hl
  refine lv_aload_n hx hb d_Exact_hasAnyBelow_0 rfl (lv_at hl 0 rfl) ?_
  refine va_get (D := D) (ci := 3) (v := .ref qs) (C := R_Exact) (T := F_Exact) (N := 3) hx hb hts i_Exact hown hK hP 0 rfl rfl 1 (by decide) (hts _ kw_47_) (fun _ h9 => h9) rfl d_Exact_hasAnyBelow_1 ?_
  refine lv_iload_n hx hb d_Exact_hasAnyBelow_4 rfl (lv_at hl 1 rfl) ?_
  refine kg_i (kr_V (C0 := R_Big) (ci := 2) (i0 := 0) (As := [.int (iZ (((k : Nat) : Int)))]) (rest := []) C0 (c_Big_hasAnyBelow l D Z _ qs lz cAs fs ns v k (by assumption) (by omega)) q_y_Big_hasAnyBelow kw_72_ kw_73_ kw_74_ kw_24_ hd_y_Big_hasAnyBelow rfl rfl ⟨Nat.le_of_ble_eq_true rfl, Nat.le_of_ble_eq_true rfl⟩ (hP.sub (ws' := [(qs, .inr (2, [.ref lz, .int (iZ (((ns : Nat) : Int)))])), (lz, .inl (cAs, 124, .inr (.inl fs)))]) [3, 4] rfl) (hD.sub (ws' := [(qs, .inr (2, [.ref lz, .int (iZ (((ns : Nat) : Int)))])), (lz, .inl (cAs, 124, .inr (.inl fs)))]) [3, 4] (by decide) rfl) (hK.sub (tys' := [(cAs, .long)]) [1] rfl) hE hS (va_free (wc := [(qs, .inr (2, [.ref lz, .int (iZ (((ns : Nat) : Int)))])), (lz, .inl (cAs, 124, .inr (.inl fs)))]) hD hS hA [3, 4] rfl) rfl rfl rfl hl.1 rfl (Nat.le_of_ble_eq_true rfl) d_Exact_hasAnyBelow_5 ⟨Nat.le_of_ble_eq_true rfl, Nat.le_of_ble_eq_true rfl⟩) (fun r hr1 => ?_)
  obtain rfl : r = bZ (¬ v % 10 ^ k = 0) := hr1
  exact er_z hx hb hr hlocks (bZ_nar) d_Exact_hasAnyBelow_8 (show bZ (¬ v % 10 ^ k = 0) = bZ (¬ v % 10 ^ k = 0) from rfl)
abbrev Qc_Exact_from (D : va_G) (h0 : Nat) (qa : Nat) (la : Nat) (qs : Nat) (lz : Nat) (cAa : ClassId) (cAs : ClassId) (fa : Nat → Int64) (na : Nat) (fs : Nat → Int64) (ns : Nat) (sc : Int) (v : Nat) (k : Nat) (A : Nat → Prop) : Array Value → State → Outcome → State → Prop := vp_Sl (fun r : Int64 => r = lN (v / 10 ^ k))
set_option maxHeartbeats 4000000 in
set_option maxRecDepth 100000 in
theorem c_Exact_from (l : Launch) (D : va_G) (Z : Nat → Nat) (hz9 : Nat) (h0 : Nat) (qa : Nat) (la : Nat) (qs : Nat) (lz : Nat) (cAa : ClassId) (cAs : ClassId) (fa : Nat → Int64) (na : Nat) (fs : Nat → Int64) (ns : Nat) (sc : Int) (v : Nat) (k : Nat) (hB : BigIs fs ns v) (hk : k < 2147483000) (hlt : v / 10 ^ k < 9223372036854775808) : Met l y_Exact_from (.code y_Exact_from b_Exact_from 2 (some .long) :: gT) ({ frames := 2, cells := 0, slots := 0, locals := 44 } : Room) (va_Pc [.ref h0, .int (iZ (((k : Nat) : Int)))] (cpre D Z [(h0, .inr (3, [.ref qa, .ref qs, .int (iZ (sc))])), (qa, .inr (2, [.ref la, .int (iZ (((na : Nat) : Int)))])), (la, .inl (cAa, 124, .inr (.inl fa))), (qs, .inr (2, [.ref lz, .int (iZ (((ns : Nat) : Int)))])), (lz, .inl (cAs, 124, .inr (.inl fs)))] [(cAa, .long), (cAs, .long)] hz9)) (Qc_Exact_from D h0 qa la qs lz cAa cAs fa na fs ns sc v k (va_A [(h0, .inr (3, [.ref qa, .ref qs, .int (iZ (sc))])), (qa, .inr (2, [.ref la, .int (iZ (((na : Nat) : Int)))])), (la, .inl (cAa, 124, .inr (.inl fa))), (qs, .inr (2, [.ref lz, .int (iZ (((ns : Nat) : Int)))])), (lz, .inl (cAs, 124, .inr (.inl fs)))] hz9)) 0 0 (fun _ => False) := by
  refine met_go (Qf := Qc_Exact_from D h0 qa la qs lz cAa cAs fa na fs ns sc v k) (ff := fun _ _ => False) (by decide) ?_
  intro p e s m below meth c A C0 hin hsz9 hA hE hK hP hD
  obtain ⟨hx, hb, hml, hown, hts, hr, hlocks⟩ := id C0
  have hS : va_S A s.heap s.heap [] := va_S.rf
  have hl := lv_entry [.ref h0, .int (iZ (((k : Nat) : Int)))] (n := 2) (Nat.le_of_ble_eq_true rfl)
  rw [lg_entry_eq]
  generalize (lg_sl [.ref h0, .int (iZ (((k : Nat) : Int)))] ++ List.replicate (2 - (lg_sl [.ref h0, .int (iZ (((k : Nat) : Int)))]).length) Slot.unset).toArray = ls at hl ⊢
  have hl : lv_has ls 2 [(0, .ref h0), (1, .int (iZ (((k : Nat) : Int))))] := hl
  refine lv_aload_n hx hb d_Exact_from_0 rfl (lv_at hl 0 rfl) ?_
  refine va_get (D := D) (ci := 3) (v := .ref qs) (C := R_Exact) (T := F_Exact) (N := 3) hx hb hts i_Exact hown hK hP 0 rfl rfl 1 (by decide) (hts _ kw_47_) (fun _ h9 => h9) rfl d_Exact_from_1 ?_
  refine lv_iload_n hx hb d_Exact_from_4 rfl (lv_at hl 1 rfl) ?_
  refine kg_l (kr_V (C0 := R_Big) (ci := 2) (i0 := 0) (As := [.int (iZ (((k : Nat) : Int)))]) (rest := []) C0 (c_Big_from l D Z _ qs lz cAs fs ns v k (by assumption) (by omega) (by assumption)) q_y_Big_from kw_75_ kw_76_ kw_77_ kw_24_ hd_y_Big_from rfl rfl ⟨Nat.le_of_ble_eq_true rfl, Nat.le_of_ble_eq_true rfl⟩ (hP.sub (ws' := [(qs, .inr (2, [.ref lz, .int (iZ (((ns : Nat) : Int)))])), (lz, .inl (cAs, 124, .inr (.inl fs)))]) [3, 4] rfl) (hD.sub (ws' := [(qs, .inr (2, [.ref lz, .int (iZ (((ns : Nat) : Int)))])), (lz, .inl (cAs, 124, .inr (.inl fs)))]) [3, 4] (by decide) rfl) (hK.sub (tys' := [(cAs, .long)]) [1] rfl) hE hS (va_free (wc := [(qs, .inr (2, [.ref lz, .int (iZ (((ns : Nat) : Int)))])), (lz, .inl (cAs, 124, .inr (.inl fs)))]) hD hS hA [3, 4] rfl) rfl rfl rfl hl.1 rfl (Nat.le_of_ble_eq_true rfl) d_Exact_from_5 ⟨Nat.le_of_ble_eq_true rfl, Nat.le_of_ble_eq_true rfl⟩) (fun r hr1 => ?_)
  obtain rfl : r = lN (v / 10 ^ k) := hr1
  exact er_l hx hb hr hlocks d_Exact_from_8 (show lN (v / 10 ^ k) = lN (v / 10 ^ k) from rfl)
abbrev Qc_Exact_goesUp (D : va_G) (h0 : Nat) (qa : Nat) (la : Nat) (qs : Nat) (lz : Nat) (cAa : ClassId) (cAs : ClassId) (fa : Nat → Int64) (na : Nat) (fs : Nat → Int64) (ns : Nat) (sc : Int) (v : Nat) (k : Nat) (w : Nat) (A : Nat → Prop) : Array Value → State → Outcome → State → Prop := vp_Si (fun r : Int32 => r = bZ (upB v k w = true))
set_option maxHeartbeats 4000000 in
set_option maxRecDepth 100000 in
theorem c_Exact_goesUp (l : Launch) (D : va_G) (Z : Nat → Nat) (hz9 : Nat) (h0 : Nat) (qa : Nat) (la : Nat) (qs : Nat) (lz : Nat) (cAa : ClassId) (cAs : ClassId) (fa : Nat → Int64) (na : Nat) (fs : Nat → Int64) (ns : Nat) (sc : Int) (v : Nat) (k : Nat) (w : Nat) (hB : BigIs fs ns v) (hk : 1 ≤ k ∧ k < 2147483000) (hwy : w ≤ 3) : Met l y_Exact_goesUp (.code y_Exact_goesUp b_Exact_goesUp 5 (some .boolean) :: gT) ({ frames := 2, cells := 0, slots := 0, locals := 44 } : Room) (va_Pc [.ref h0, .int (iZ (((k : Nat) : Int))), .int (iZ (((w : Nat) : Int)))] (cpre D Z [(h0, .inr (3, [.ref qa, .ref qs, .int (iZ (sc))])), (qa, .inr (2, [.ref la, .int (iZ (((na : Nat) : Int)))])), (la, .inl (cAa, 124, .inr (.inl fa))), (qs, .inr (2, [.ref lz, .int (iZ (((ns : Nat) : Int)))])), (lz, .inl (cAs, 124, .inr (.inl fs)))] [(cAa, .long), (cAs, .long)] hz9)) (Qc_Exact_goesUp D h0 qa la qs lz cAa cAs fa na fs ns sc v k w (va_A [(h0, .inr (3, [.ref qa, .ref qs, .int (iZ (sc))])), (qa, .inr (2, [.ref la, .int (iZ (((na : Nat) : Int)))])), (la, .inl (cAa, 124, .inr (.inl fa))), (qs, .inr (2, [.ref lz, .int (iZ (((ns : Nat) : Int)))])), (lz, .inl (cAs, 124, .inr (.inl fs)))] hz9)) 0 0 (fun _ => False) := by
  refine met_go (Qf := Qc_Exact_goesUp D h0 qa la qs lz cAa cAs fa na fs ns sc v k w) (ff := fun _ _ => False) (by decide) ?_
  intro p e s m below meth c A C0 hin hsz9 hA hE hK hP hD
  obtain ⟨hx, hb, hml, hown, hts, hr, hlocks⟩ := id C0
  have hS : va_S A s.heap s.heap [] := va_S.rf
  have hl := lv_entry [.ref h0, .int (iZ (((k : Nat) : Int))), .int (iZ (((w : Nat) : Int)))] (n := 5) (Nat.le_of_ble_eq_true rfl)
  rw [lg_entry_eq]
  generalize (lg_sl [.ref h0, .int (iZ (((k : Nat) : Int))), .int (iZ (((w : Nat) : Int)))] ++ List.replicate (5 - (lg_sl [.ref h0, .int (iZ (((k : Nat) : Int))), .int (iZ (((w : Nat) : Int)))]).length) Slot.unset).toArray = ls at hl ⊢
  have hl : lv_has ls 5 [(0, .ref h0), (1, .int (iZ (((k : Nat) : Int)))), (2, .int (iZ (((w : Nat) : Int))))] := hl
  have hf5 := figAt_lt v ((k : Int) - 1)
  have hfk := figAt_lt v (k : Int)
  refine lv_iload_n hx hb d_Exact_goesUp_0 rfl (lv_at hl 2 rfl) ?_
  refine zv_if_ne (tgt := 6) hx hb d_Exact_goesUp_1 (by decide) (by omega) (fun c1 => ?_) (fun c1 => ?_)
  · have q1 : ¬ w = 0 := by omega
    refine lv_iload_n hx hb d_Exact_goesUp_6 rfl (lv_at hl 2 rfl) ?_
    refine lv_iconst (v := iZ (1)) hx hb d_Exact_goesUp_7 rfl ?_
    refine zv_icmp_ne (tgt := 20) hx hb d_Exact_goesUp_8 (by decide) (by omega) (by omega) (fun c8 => ?_) (fun c8 => ?_)
    · have q8 : ¬ w = 1 := by omega
      refine lv_aload_n hx hb d_Exact_goesUp_20 rfl (lv_at hl 0 rfl) ?_
      refine va_get (D := D) (ci := 3) (v := .ref qs) (C := R_Exact) (T := F_Exact) (N := 3) hx hb hts i_Exact hown hK hP 0 rfl rfl 1 (by decide) (hts _ kw_47_) (fun _ h9 => h9) rfl d_Exact_goesUp_21 ?_
      refine lv_iload_n hx hb d_Exact_goesUp_24 rfl (lv_at hl 1 rfl) ?_
      refine lv_iconst (v := iZ (1)) hx hb d_Exact_goesUp_25 rfl ?_
      refine zv_isub hx hb d_Exact_goesUp_26 ?_
      refine kg_i (kr_V (C0 := R_Big) (ci := 2) (i0 := 0) (As := [.int (iZ (((k : Nat) : Int) - 1))]) (rest := []) C0 (c_Big_figureAt l D Z _ qs lz cAs fs ns v (((k : Nat) : Int) - 1) (by assumption) (by omega)) q_y_Big_figureAt kw_69_ kw_70_ kw_71_ kw_24_ hd_y_Big_figureAt rfl rfl ⟨Nat.le_of_ble_eq_true rfl, Nat.le_of_ble_eq_true rfl⟩ (hP.sub (ws' := [(qs, .inr (2, [.ref lz, .int (iZ (((ns : Nat) : Int)))])), (lz, .inl (cAs, 124, .inr (.inl fs)))]) [3, 4] rfl) (hD.sub (ws' := [(qs, .inr (2, [.ref lz, .int (iZ (((ns : Nat) : Int)))])), (lz, .inl (cAs, 124, .inr (.inl fs)))]) [3, 4] (by decide) rfl) (hK.sub (tys' := [(cAs, .long)]) [1] rfl) hE hS (va_free (wc := [(qs, .inr (2, [.ref lz, .int (iZ (((ns : Nat) : Int)))])), (lz, .inl (cAs, 124, .inr (.inl fs)))]) hD hS hA [3, 4] rfl) rfl rfl rfl hl.1 rfl (Nat.le_of_ble_eq_true rfl) d_Exact_goesUp_27 ⟨Nat.le_of_ble_eq_true rfl, Nat.le_of_ble_eq_true rfl⟩) (fun r hr1 => ?_)
      obtain rfl : r = iZ (((figAt v (((k : Nat) : Int) - 1) : Nat) : Int)) := hr1
      refine lv_istore_n (lv' := [(3, .int (iZ (((figAt v (((k : Nat) : Int) - 1) : Nat) : Int)))), (0, .ref h0), (1, .int (iZ (((k : Nat) : Int)))), (2, .int (iZ (((w : Nat) : Int))))]) hx hb d_Exact_goesUp_30 rfl hl (by decide) rfl (fun ls hl => ?_)
      refine lv_iload_n hx hb d_Exact_goesUp_31 rfl (lv_at hl 0 rfl) ?_
      refine lv_iconst (v := iZ (5)) hx hb d_Exact_goesUp_32 rfl ?_
      refine zv_icmp_eq (tgt := 47) hx hb d_Exact_goesUp_33 (by decide) (by omega) (by omega) (fun c33 => ?_) (fun c33 => ?_)
      · have q33 : figAt v ((k : Int) - 1) = 5 := by omega
        refine lv_aload_n hx hb d_Exact_goesUp_47 rfl (lv_at hl 1 rfl) ?_
        refine va_get (D := D) (ci := 3) (v := .ref qs) (C := R_Exact) (T := F_Exact) (N := 3) hx hb hts i_Exact hown hK hP 0 rfl rfl 1 (by decide) (hts _ kw_47_) (fun _ h9 => h9) rfl d_Exact_goesUp_48 ?_
        refine lv_iload_n hx hb d_Exact_goesUp_51 rfl (lv_at hl 2 rfl) ?_
        refine lv_iconst (v := iZ (1)) hx hb d_Exact_goesUp_52 rfl ?_
        refine zv_isub hx hb d_Exact_goesUp_53 ?_
        refine zv_top (y := iZ (((k - 1 : Nat) : Int))) (congrArg iZ (by omega)) ?_
        refine kg_i (kr_V (C0 := R_Big) (ci := 2) (i0 := 0) (As := [.int (iZ (((k - 1 : Nat) : Int)))]) (rest := []) C0 (c_Big_hasAnyBelow l D Z _ qs lz cAs fs ns v (k - 1) (by assumption) (by omega)) q_y_Big_hasAnyBelow kw_72_ kw_73_ kw_74_ kw_24_ hd_y_Big_hasAnyBelow rfl rfl ⟨Nat.le_of_ble_eq_true rfl, Nat.le_of_ble_eq_true rfl⟩ (hP.sub (ws' := [(qs, .inr (2, [.ref lz, .int (iZ (((ns : Nat) : Int)))])), (lz, .inl (cAs, 124, .inr (.inl fs)))]) [3, 4] rfl) (hD.sub (ws' := [(qs, .inr (2, [.ref lz, .int (iZ (((ns : Nat) : Int)))])), (lz, .inl (cAs, 124, .inr (.inl fs)))]) [3, 4] (by decide) rfl) (hK.sub (tys' := [(cAs, .long)]) [1] rfl) hE hS (va_free (wc := [(qs, .inr (2, [.ref lz, .int (iZ (((ns : Nat) : Int)))])), (lz, .inl (cAs, 124, .inr (.inl fs)))]) hD hS hA [3, 4] rfl) rfl rfl rfl hl.1 rfl (Nat.le_of_ble_eq_true rfl) d_Exact_goesUp_54 ⟨Nat.le_of_ble_eq_true rfl, Nat.le_of_ble_eq_true rfl⟩) (fun r hr1 => ?_)
        obtain rfl : r = bZ (¬ v % 10 ^ (k - 1) = 0) := hr1
        refine bv_if_ne (tgt := 64) hx hb d_Exact_goesUp_57 (by decide) (fun c57 => ?_) (fun c57 => ?_)
        · refine lv_iconst (v := iZ (0)) hx hb d_Exact_goesUp_64 rfl ?_
          refine lv_istore (lv' := [(4, .int (iZ (0))), (3, .int (iZ (((figAt v (((k : Nat) : Int) - 1) : Nat) : Int)))), (0, .ref h0), (1, .int (iZ (((k : Nat) : Int)))), (2, .int (iZ (((w : Nat) : Int))))]) hx hb d_Exact_goesUp_65 hl (by decide) rfl (fun ls hl => ?_)
          refine lv_iload_n hx hb d_Exact_goesUp_67 rfl (lv_at hl 4 rfl) ?_
          refine lv_iconst (v := iZ (2)) hx hb d_Exact_goesUp_68 rfl ?_
          refine zv_icmp_eq (tgt := 91) hx hb d_Exact_goesUp_69 (by decide) (by omega) (by omega) (fun c69 => ?_) (fun c69 => ?_)
          · refine lv_iconst (v := iZ (1)) hx hb d_Exact_goesUp_91 rfl ?_
            refine lv_goto (tgt := 96) hx hb d_Exact_goesUp_92 (by decide) ?_
            exact er_z hx hb hr hlocks (by decide) d_Exact_goesUp_96 (show iZ (1) = bZ (upB v k w = true) from by first | exact (bZ_t (by simp [upB, q1, q8, q33]; omega)).symm | exact (bZ_f (by simp [upB, q1, q8, q33]; omega)).symm)
          · refine lv_iload hx hb d_Exact_goesUp_72 (lv_at hl 0 rfl) ?_
            refine zv_if_eq (tgt := 91) hx hb d_Exact_goesUp_74 (by decide) (by omega) (fun c74 => ?_) (fun c74 => absurd c74 (by decide))
            refine lv_iconst (v := iZ (1)) hx hb d_Exact_goesUp_91 rfl ?_
            refine lv_goto (tgt := 96) hx hb d_Exact_goesUp_92 (by decide) ?_
            exact er_z hx hb hr hlocks (by decide) d_Exact_goesUp_96 (show iZ (1) = bZ (upB v k w = true) from by first | exact (bZ_t (by simp [upB, q1, q8, q33]; omega)).symm | exact (bZ_f (by simp [upB, q1, q8, q33]; omega)).symm)
        · refine lv_iconst (v := iZ (1)) hx hb d_Exact_goesUp_60 rfl ?_
          refine lv_goto (tgt := 65) hx hb d_Exact_goesUp_61 (by decide) ?_
          refine lv_istore (lv' := [(4, .int (iZ (1))), (3, .int (iZ (((figAt v (((k : Nat) : Int) - 1) : Nat) : Int)))), (0, .ref h0), (1, .int (iZ (((k : Nat) : Int)))), (2, .int (iZ (((w : Nat) : Int))))]) hx hb d_Exact_goesUp_65 hl (by decide) rfl (fun ls hl => ?_)
          refine lv_iload_n hx hb d_Exact_goesUp_67 rfl (lv_at hl 4 rfl) ?_
          refine lv_iconst (v := iZ (2)) hx hb d_Exact_goesUp_68 rfl ?_
          refine zv_icmp_eq (tgt := 91) hx hb d_Exact_goesUp_69 (by decide) (by omega) (by omega) (fun c69 => ?_) (fun c69 => ?_)
          · refine lv_iconst (v := iZ (1)) hx hb d_Exact_goesUp_91 rfl ?_
            refine lv_goto (tgt := 96) hx hb d_Exact_goesUp_92 (by decide) ?_
            exact er_z hx hb hr hlocks (by decide) d_Exact_goesUp_96 (show iZ (1) = bZ (upB v k w = true) from by first | exact (bZ_t (by simp [upB, q1, q8, q33]; omega)).symm | exact (bZ_f (by simp [upB, q1, q8, q33]; omega)).symm)
          · refine lv_iload hx hb d_Exact_goesUp_72 (lv_at hl 0 rfl) ?_
            refine zv_if_eq (tgt := 91) hx hb d_Exact_goesUp_74 (by decide) (by omega) (fun c74 => absurd c74 (by decide)) (fun c74 => ?_)
            refine lv_aload_n hx hb d_Exact_goesUp_77 rfl (lv_at hl 2 rfl) ?_
            refine va_get (D := D) (ci := 3) (v := .ref qs) (C := R_Exact) (T := F_Exact) (N := 3) hx hb hts i_Exact hown hK hP 0 rfl rfl 1 (by decide) (hts _ kw_47_) (fun _ h9 => h9) rfl d_Exact_goesUp_78 ?_
            refine lv_iload_n hx hb d_Exact_goesUp_81 rfl (lv_at hl 3 rfl) ?_
            refine kg_i (kr_V (C0 := R_Big) (ci := 2) (i0 := 0) (As := [.int (iZ (((k : Nat) : Int)))]) (rest := []) C0 (c_Big_figureAt l D Z _ qs lz cAs fs ns v (((k : Nat) : Int)) (by assumption) (by omega)) q_y_Big_figureAt kw_69_ kw_70_ kw_71_ kw_24_ hd_y_Big_figureAt rfl rfl ⟨Nat.le_of_ble_eq_true rfl, Nat.le_of_ble_eq_true rfl⟩ (hP.sub (ws' := [(qs, .inr (2, [.ref lz, .int (iZ (((ns : Nat) : Int)))])), (lz, .inl (cAs, 124, .inr (.inl fs)))]) [3, 4] rfl) (hD.sub (ws' := [(qs, .inr (2, [.ref lz, .int (iZ (((ns : Nat) : Int)))])), (lz, .inl (cAs, 124, .inr (.inl fs)))]) [3, 4] (by decide) rfl) (hK.sub (tys' := [(cAs, .long)]) [1] rfl) hE hS (va_free (wc := [(qs, .inr (2, [.ref lz, .int (iZ (((ns : Nat) : Int)))])), (lz, .inl (cAs, 124, .inr (.inl fs)))]) hD hS hA [3, 4] rfl) rfl rfl rfl hl.1 rfl (Nat.le_of_ble_eq_true rfl) d_Exact_goesUp_82 ⟨Nat.le_of_ble_eq_true rfl, Nat.le_of_ble_eq_true rfl⟩) (fun r hr1 => ?_)
            obtain rfl : r = iZ (((figAt v (((k : Nat) : Int)) : Nat) : Int)) := hr1
            refine lv_iconst (v := iZ (2)) hx hb d_Exact_goesUp_85 rfl ?_
            refine zv_irem hx hb d_Exact_goesUp_86 (by omega) (by omega) ?_
            refine lv_iconst (v := iZ (1)) hx hb d_Exact_goesUp_87 rfl ?_
            refine zv_icmp_ne (tgt := 95) hx hb d_Exact_goesUp_88 (by decide) (by omega) (by omega) (fun c88 => ?_) (fun c88 => ?_)
            · refine lv_iconst (v := iZ (0)) hx hb d_Exact_goesUp_95 rfl ?_
              exact er_z hx hb hr hlocks (by decide) d_Exact_goesUp_96 (show iZ (0) = bZ (upB v k w = true) from by first | exact (bZ_t (by simp [upB, q1, q8, q33]; omega)).symm | exact (bZ_f (by simp [upB, q1, q8, q33]; omega)).symm)
            · refine lv_iconst (v := iZ (1)) hx hb d_Exact_goesUp_91 rfl ?_
              refine lv_goto (tgt := 96) hx hb d_Exact_goesUp_92 (by decide) ?_
              exact er_z hx hb hr hlocks (by decide) d_Exact_goesUp_96 (show iZ (1) = bZ (upB v k w = true) from by first | exact (bZ_t (by simp [upB, q1, q8, q33]; omega)).symm | exact (bZ_f (by simp [upB, q1, q8, q33]; omega)).symm)
      · have q33 : ¬ figAt v ((k : Int) - 1) = 5 := by omega
        refine lv_iload_n hx hb d_Exact_goesUp_36 rfl (lv_at hl 0 rfl) ?_
        refine lv_iconst (v := iZ (5)) hx hb d_Exact_goesUp_37 rfl ?_
        refine zv_icmp_le (tgt := 45) hx hb d_Exact_goesUp_38 (by decide) (by omega) (by omega) (fun c38 => ?_) (fun c38 => ?_)
        · refine lv_iconst (v := iZ (0)) hx hb d_Exact_goesUp_45 rfl ?_
          exact er_z hx hb hr hlocks (by decide) d_Exact_goesUp_46 (show iZ (0) = bZ (upB v k w = true) from by first | exact (bZ_t (by simp [upB, q1, q8, q33]; omega)).symm | exact (bZ_f (by simp [upB, q1, q8, q33]; omega)).symm)
        · refine lv_iconst (v := iZ (1)) hx hb d_Exact_goesUp_41 rfl ?_
          refine lv_goto (tgt := 46) hx hb d_Exact_goesUp_42 (by decide) ?_
          exact er_z hx hb hr hlocks (by decide) d_Exact_goesUp_46 (show iZ (1) = bZ (upB v k w = true) from by first | exact (bZ_t (by simp [upB, q1, q8, q33]; omega)).symm | exact (bZ_f (by simp [upB, q1, q8, q33]; omega)).symm)
    · have q8 : w = 1 := by omega
      refine lv_aload_n hx hb d_Exact_goesUp_11 rfl (lv_at hl 0 rfl) ?_
      refine va_get (D := D) (ci := 3) (v := .ref qs) (C := R_Exact) (T := F_Exact) (N := 3) hx hb hts i_Exact hown hK hP 0 rfl rfl 1 (by decide) (hts _ kw_47_) (fun _ h9 => h9) rfl d_Exact_goesUp_12 ?_
      refine lv_iload_n hx hb d_Exact_goesUp_15 rfl (lv_at hl 1 rfl) ?_
      refine kg_i (kr_V (C0 := R_Big) (ci := 2) (i0 := 0) (As := [.int (iZ (((k : Nat) : Int)))]) (rest := []) C0 (c_Big_hasAnyBelow l D Z _ qs lz cAs fs ns v k (by assumption) (by omega)) q_y_Big_hasAnyBelow kw_72_ kw_73_ kw_74_ kw_24_ hd_y_Big_hasAnyBelow rfl rfl ⟨Nat.le_of_ble_eq_true rfl, Nat.le_of_ble_eq_true rfl⟩ (hP.sub (ws' := [(qs, .inr (2, [.ref lz, .int (iZ (((ns : Nat) : Int)))])), (lz, .inl (cAs, 124, .inr (.inl fs)))]) [3, 4] rfl) (hD.sub (ws' := [(qs, .inr (2, [.ref lz, .int (iZ (((ns : Nat) : Int)))])), (lz, .inl (cAs, 124, .inr (.inl fs)))]) [3, 4] (by decide) rfl) (hK.sub (tys' := [(cAs, .long)]) [1] rfl) hE hS (va_free (wc := [(qs, .inr (2, [.ref lz, .int (iZ (((ns : Nat) : Int)))])), (lz, .inl (cAs, 124, .inr (.inl fs)))]) hD hS hA [3, 4] rfl) rfl rfl rfl hl.1 rfl (Nat.le_of_ble_eq_true rfl) d_Exact_goesUp_16 ⟨Nat.le_of_ble_eq_true rfl, Nat.le_of_ble_eq_true rfl⟩) (fun r hr1 => ?_)
      obtain rfl : r = bZ (¬ v % 10 ^ k = 0) := hr1
      exact er_z hx hb hr hlocks (bZ_nar) d_Exact_goesUp_19 (show bZ (¬ v % 10 ^ k = 0) = bZ (upB v k w = true) from bZ_congr (by simp [upB, q8]))
  · have q1 : w = 0 := by omega
    refine lv_iconst (v := iZ (0)) hx hb d_Exact_goesUp_4 rfl ?_
    exact er_z hx hb hr hlocks (by decide) d_Exact_goesUp_5 (show iZ (0) = bZ (upB v k w = true) from (bZ_f (by simp [upB, q1])).symm)
abbrev Qc_Exact_roundAt (D : va_G) (h0 : Nat) (qa : Nat) (la : Nat) (qs : Nat) (lz : Nat) (cAa : ClassId) (cAs : ClassId) (fa : Nat → Int64) (na : Nat) (fs : Nat → Int64) (ns : Nat) (sc : Int) (v : Nat) (z : Int) (w : Nat) (A : Nat → Prop) : Array Value → State → Outcome → State → Prop := va_Qv (fun u : (Nat → Int64) × Nat => BigIs (u.1) (u.2) (rnd v z w)) (fun (u : (Nat → Int64) × Nat) t9 => cpost D A [(h0, .inr (3, [.ref qa, .ref qs, .int (iZ (sc))])), (qa, .inr (2, [.ref la, .int (iZ (((na : Nat) : Int)))])), (la, .inl (cAa, 124, .inr (.inl fa))), (qs, .inr (2, [.ref lz, .int (iZ ((((u.2) : Nat) : Int)))])), (lz, .inl (cAs, 124, .inr (.inl ((u.1)))))] [(cAa, .long), (cAs, .long)] t9) A
set_option maxHeartbeats 4000000 in
set_option maxRecDepth 100000 in
theorem c_Exact_roundAt (l : Launch) (D : va_G) (Z : Nat → Nat) (hz9 : Nat) (h0 : Nat) (qa : Nat) (la : Nat) (qs : Nat) (lz : Nat) (cAa : ClassId) (cAs : ClassId) (fa : Nat → Int64) (na : Nat) (fs : Nat → Int64) (ns : Nat) (sc : Int) (v : Nat) (z : Int) (w : Nat) (hB : BigIs fs ns v) (hz : -2147483000 < z ∧ z < 1110) (hwy : w ≤ 3) (hv : v < 1000000000 ^ 123) : Met l y_Exact_roundAt (.code y_Exact_roundAt b_Exact_roundAt 3 none :: gT) ({ frames := 3, cells := 0, slots := 0, locals := 68 } : Room) (va_Pc [.ref h0, .int (iZ (z)), .int (iZ (((w : Nat) : Int)))] (cpre D Z [(h0, .inr (3, [.ref qa, .ref qs, .int (iZ (sc))])), (qa, .inr (2, [.ref la, .int (iZ (((na : Nat) : Int)))])), (la, .inl (cAa, 124, .inr (.inl fa))), (qs, .inr (2, [.ref lz, .int (iZ (((ns : Nat) : Int)))])), (lz, .inl (cAs, 124, .inr (.inl fs)))] [(cAa, .long), (cAs, .long)] hz9)) (Qc_Exact_roundAt D h0 qa la qs lz cAa cAs fa na fs ns sc v z w (va_A [(h0, .inr (3, [.ref qa, .ref qs, .int (iZ (sc))])), (qa, .inr (2, [.ref la, .int (iZ (((na : Nat) : Int)))])), (la, .inl (cAa, 124, .inr (.inl fa))), (qs, .inr (2, [.ref lz, .int (iZ (((ns : Nat) : Int)))])), (lz, .inl (cAs, 124, .inr (.inl fs)))] hz9)) 0 0 (va_A [(h0, .inr (3, [.ref qa, .ref qs, .int (iZ (sc))])), (qa, .inr (2, [.ref la, .int (iZ (((na : Nat) : Int)))])), (la, .inl (cAa, 124, .inr (.inl fa))), (qs, .inr (2, [.ref lz, .int (iZ (((ns : Nat) : Int)))])), (lz, .inl (cAs, 124, .inr (.inl fs)))] hz9) := by
  refine met_go (Qf := Qc_Exact_roundAt D h0 qa la qs lz cAa cAs fa na fs ns sc v z w) (ff := fun A => A) (by decide) ?_
  intro p e s m below meth c A C0 hin hsz9 hA hE hK hP hD
  obtain ⟨hx, hb, hml, hown, hts, hr, hlocks⟩ := id C0
  have hS : va_S A s.heap s.heap [] := va_S.rf
  have hl := lv_entry [.ref h0, .int (iZ (z)), .int (iZ (((w : Nat) : Int)))] (n := 3) (Nat.le_of_ble_eq_true rfl)
  rw [lg_entry_eq]
  generalize (lg_sl [.ref h0, .int (iZ (z)), .int (iZ (((w : Nat) : Int)))] ++ List.replicate (3 - (lg_sl [.ref h0, .int (iZ (z)), .int (iZ (((w : Nat) : Int)))]).length) Slot.unset).toArray = ls at hl ⊢
  have hl : lv_has ls 3 [(0, .ref h0), (1, .int (iZ (z))), (2, .int (iZ (((w : Nat) : Int))))] := hl
  refine lv_iload_n hx hb d_Exact_roundAt_0 rfl (lv_at hl 1 rfl) ?_
  refine zv_if_le (tgt := 21) hx hb d_Exact_roundAt_1 (by decide) (by omega) (fun c1 => ?_) (fun c1 => ?_)
  · have e1 : rnd v z w = v := by unfold rnd; rw [if_neg (by omega)]
    exact ew_v (fs, ns) hx hb hr hlocks d_Exact_roundAt_21 (show BigIs fs ns (rnd v z w) from by rw [e1]; exact hB) (hP.sub (ws' := [(h0, .inr (3, [.ref qa, .ref qs, .int (iZ (sc))])), (qa, .inr (2, [.ref la, .int (iZ (((na : Nat) : Int)))])), (la, .inl (cAa, 124, .inr (.inl fa))), (qs, .inr (2, [.ref lz, .int (iZ (((ns : Nat) : Int)))])), (lz, .inl (cAs, 124, .inr (.inl fs)))]) [0, 1, 2, 3, 4] rfl) (hD.sub (ws' := [(h0, .inr (3, [.ref qa, .ref qs, .int (iZ (sc))])), (qa, .inr (2, [.ref la, .int (iZ (((na : Nat) : Int)))])), (la, .inl (cAa, 124, .inr (.inl fa))), (qs, .inr (2, [.ref lz, .int (iZ (((ns : Nat) : Int)))])), (lz, .inl (cAs, 124, .inr (.inl fs)))]) [0, 1, 2, 3, 4] (by decide) rfl) (hK.sub (tys' := [(cAa, .long), (cAs, .long)]) [0, 1] rfl) hS (Nat.le_of_ble_eq_true rfl) (Nat.le_of_ble_eq_true rfl)
  · obtain ⟨k, hk⟩ : ∃ k : Nat, z = (k : Int) := ⟨z.toNat, by omega⟩
    have hk2 : z.toNat = k := by omega
    refine lv_aload_n hx hb d_Exact_roundAt_4 rfl (lv_at hl 0 rfl) ?_
    refine lv_iload_n hx hb d_Exact_roundAt_5 rfl (lv_at hl 1 rfl) ?_
    refine zv_top (y := iZ (((k : Nat) : Int))) (congrArg iZ hk) ?_
    refine lv_iload_n hx hb d_Exact_roundAt_6 rfl (lv_at hl 2 rfl) ?_
    refine kg_i (kr_V (C0 := R_Exact) (ci := 3) (i0 := 0) (As := [.int (iZ (((k : Nat) : Int))), .int (iZ (((w : Nat) : Int)))]) (rest := []) C0 (c_Exact_goesUp l D Z _ h0 qa la qs lz cAa cAs fa na fs ns sc v k w (by assumption) (by omega) (by omega)) q_y_Exact_goesUp kw_79_ kw_80_ kw_81_ kw_78_ hd_y_Exact_goesUp rfl rfl ⟨Nat.le_of_ble_eq_true rfl, Nat.le_of_ble_eq_true rfl⟩ (hP.sub (ws' := [(h0, .inr (3, [.ref qa, .ref qs, .int (iZ (sc))])), (qa, .inr (2, [.ref la, .int (iZ (((na : Nat) : Int)))])), (la, .inl (cAa, 124, .inr (.inl fa))), (qs, .inr (2, [.ref lz, .int (iZ (((ns : Nat) : Int)))])), (lz, .inl (cAs, 124, .inr (.inl fs)))]) [0, 1, 2, 3, 4] rfl) (hD.sub (ws' := [(h0, .inr (3, [.ref qa, .ref qs, .int (iZ (sc))])), (qa, .inr (2, [.ref la, .int (iZ (((na : Nat) : Int)))])), (la, .inl (cAa, 124, .inr (.inl fa))), (qs, .inr (2, [.ref lz, .int (iZ (((ns : Nat) : Int)))])), (lz, .inl (cAs, 124, .inr (.inl fs)))]) [0, 1, 2, 3, 4] (by decide) rfl) (hK.sub (tys' := [(cAa, .long), (cAs, .long)]) [0, 1] rfl) hE hS (va_free (wc := [(h0, .inr (3, [.ref qa, .ref qs, .int (iZ (sc))])), (qa, .inr (2, [.ref la, .int (iZ (((na : Nat) : Int)))])), (la, .inl (cAa, 124, .inr (.inl fa))), (qs, .inr (2, [.ref lz, .int (iZ (((ns : Nat) : Int)))])), (lz, .inl (cAs, 124, .inr (.inl fs)))]) hD hS hA [0, 1, 2, 3, 4] rfl) rfl rfl rfl hl.1 rfl (Nat.le_of_ble_eq_true rfl) d_Exact_roundAt_7 ⟨Nat.le_of_ble_eq_true rfl, Nat.le_of_ble_eq_true rfl⟩) (fun r hr1 => ?_)
    obtain rfl : r = bZ (upB v k w = true) := hr1
    refine bv_if_eq (tgt := 21) hx hb d_Exact_roundAt_10 (by decide) (fun c10 => ?_) (fun c10 => ?_)
    · have e1 : rnd v z w = v := by unfold rnd; rw [if_neg (by rw [hk2]; exact fun q => c10 q.2)]
      exact ew_v (fs, ns) hx hb hr hlocks d_Exact_roundAt_21 (show BigIs fs ns (rnd v z w) from by rw [e1]; exact hB) (hP.sub (ws' := [(h0, .inr (3, [.ref qa, .ref qs, .int (iZ (sc))])), (qa, .inr (2, [.ref la, .int (iZ (((na : Nat) : Int)))])), (la, .inl (cAa, 124, .inr (.inl fa))), (qs, .inr (2, [.ref lz, .int (iZ (((ns : Nat) : Int)))])), (lz, .inl (cAs, 124, .inr (.inl fs)))]) [0, 1, 2, 3, 4] rfl) (hD.sub (ws' := [(h0, .inr (3, [.ref qa, .ref qs, .int (iZ (sc))])), (qa, .inr (2, [.ref la, .int (iZ (((na : Nat) : Int)))])), (la, .inl (cAa, 124, .inr (.inl fa))), (qs, .inr (2, [.ref lz, .int (iZ (((ns : Nat) : Int)))])), (lz, .inl (cAs, 124, .inr (.inl fs)))]) [0, 1, 2, 3, 4] (by decide) rfl) (hK.sub (tys' := [(cAa, .long), (cAs, .long)]) [0, 1] rfl) hS (Nat.le_of_ble_eq_true rfl) (Nat.le_of_ble_eq_true rfl)
    · have e1 : rnd v z w = v + 10 ^ k := by unfold rnd; rw [if_pos ⟨by omega, by rw [hk2]; exact c10⟩, hk2]
      refine lv_aload_n hx hb d_Exact_roundAt_13 rfl (lv_at hl 0 rfl) ?_
      refine va_get (D := D) (ci := 3) (v := .ref qs) (C := R_Exact) (T := F_Exact) (N := 3) hx hb hts i_Exact hown hK hP 0 rfl rfl 1 (by decide) (hts _ kw_47_) (fun _ h9 => h9) rfl d_Exact_roundAt_14 ?_
      refine lv_iload_n hx hb d_Exact_roundAt_17 rfl (lv_at hl 1 rfl) ?_
      refine zv_top (y := iZ (((k : Nat) : Int))) (congrArg iZ hk) ?_
      refine kw_v (wr := [(h0, .inr (3, [.ref qa, .ref qs, .int (iZ (sc))])), (qa, .inr (2, [.ref la, .int (iZ (((na : Nat) : Int)))])), (la, .inl (cAa, 124, .inr (.inl fa)))]) (tr := [(cAa, .long)]) (kr_V (C0 := R_Big) (ci := 2) (i0 := 0) (As := [.int (iZ (((k : Nat) : Int)))]) (rest := []) C0 (c_Big_addTenTo l D Z _ qs lz cAs fs ns v k (by assumption) (by omega) (round_room hv (by omega))) q_y_Big_addTenTo kw_82_ kw_83_ kw_84_ kw_24_ hd_y_Big_addTenTo rfl rfl ⟨Nat.le_of_ble_eq_true rfl, Nat.le_of_ble_eq_true rfl⟩ (hP.sub (ws' := [(qs, .inr (2, [.ref lz, .int (iZ (((ns : Nat) : Int)))])), (lz, .inl (cAs, 124, .inr (.inl fs)))]) [3, 4] rfl) (hD.sub (ws' := [(qs, .inr (2, [.ref lz, .int (iZ (((ns : Nat) : Int)))])), (lz, .inl (cAs, 124, .inr (.inl fs)))]) [3, 4] (by decide) rfl) (hK.sub (tys' := [(cAs, .long)]) [1] rfl) hE hS (va_free (wc := [(qs, .inr (2, [.ref lz, .int (iZ (((ns : Nat) : Int)))])), (lz, .inl (cAs, 124, .inr (.inl fs)))]) hD hS hA [3, 4] rfl) rfl rfl rfl hl.1 rfl (Nat.le_of_ble_eq_true rfl) d_Exact_roundAt_18 ⟨Nat.le_of_ble_eq_true rfl, Nat.le_of_ble_eq_true rfl⟩) hP hD hK hS hA [3, 4] [0, 1, 2] [0] rfl rfl (by decide) (by decide) rfl (fun u H locs hpost hP hD hK hS => ?_)
      obtain ⟨f1, n1⟩ := u
      have hw18 : BigIs f1 n1 (v + 10 ^ k) := hpost
      have hP : va_P D classes [(h0, .inr (3, [.ref qa, .ref qs, .int (iZ (sc))])), (qa, .inr (2, [.ref la, .int (iZ (((na : Nat) : Int)))])), (la, .inl (cAa, 124, .inr (.inl fa))), (qs, .inr (2, [.ref lz, .int (iZ (((n1 : Nat) : Int)))])), (lz, .inl (cAs, 124, .inr (.inl f1)))] H := hP
      have hD : va_D A [(h0, .inr (3, [.ref qa, .ref qs, .int (iZ (sc))])), (qa, .inr (2, [.ref la, .int (iZ (((na : Nat) : Int)))])), (la, .inl (cAa, 124, .inr (.inl fa))), (qs, .inr (2, [.ref lz, .int (iZ (((n1 : Nat) : Int)))])), (lz, .inl (cAs, 124, .inr (.inl f1)))] := hD
      have hK : va_K D classes [(cAa, .long), (cAs, .long)] s := hK
      exact ew_v (f1, n1) hx hb hr hlocks d_Exact_roundAt_21 (show BigIs f1 n1 (rnd v z w) from by rw [e1]; exact hw18) (hP.sub (ws' := [(h0, .inr (3, [.ref qa, .ref qs, .int (iZ (sc))])), (qa, .inr (2, [.ref la, .int (iZ (((na : Nat) : Int)))])), (la, .inl (cAa, 124, .inr (.inl fa))), (qs, .inr (2, [.ref lz, .int (iZ (((n1 : Nat) : Int)))])), (lz, .inl (cAs, 124, .inr (.inl f1)))]) [0, 1, 2, 3, 4] rfl) (hD.sub (ws' := [(h0, .inr (3, [.ref qa, .ref qs, .int (iZ (sc))])), (qa, .inr (2, [.ref la, .int (iZ (((na : Nat) : Int)))])), (la, .inl (cAa, 124, .inr (.inl fa))), (qs, .inr (2, [.ref lz, .int (iZ (((n1 : Nat) : Int)))])), (lz, .inl (cAs, 124, .inr (.inl f1)))]) [0, 1, 2, 3, 4] (by decide) rfl) (hK.sub (tys' := [(cAa, .long), (cAs, .long)]) [0, 1] rfl) hS (Nat.le_of_ble_eq_true rfl) (Nat.le_of_ble_eq_true rfl)
