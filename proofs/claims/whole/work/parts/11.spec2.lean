theorem kw_18_ : Cond.fieldLink R_FW 228 "FloatWriter" "TENS" "[J" ∈ gT := gT_in 376 (by decide +kernel) (by decide +kernel)
theorem kw_19_ : Cond.methodLink R_Big 1 objectInit ∈ gT := gT_in 50 (by decide +kernel) (by decide +kernel)
theorem kw_20_ : Cond.instanceMethod objectInit ∈ gT := gT_in 23 (by decide +kernel) (by decide +kernel)
theorem kw_21_ : Cond.arrayClass .long ∈ gT := gT_in 58 (by decide +kernel) (by decide +kernel)
theorem kw_22_ : Cond.fieldLink R_Big 9 "FloatWriter$Big" "limbs" "[J" ∈ gT := gT_in 51 (by decide +kernel) (by decide +kernel)
theorem kw_23_ : Cond.fieldLink R_Big 13 "FloatWriter$Big" "count" "I" ∈ gT := gT_in 52 (by decide +kernel) (by decide +kernel)
theorem kw_24_ : Cond.initialized R_Big ∈ gT := gT_in 4 (by decide +kernel) (by decide +kernel)
theorem kw_25_ : Cond.methodLink R_Big 17 y_Big_append ∈ gT := gT_in 353 (by decide +kernel) (by decide +kernel)
theorem kw_26_ : Cond.instanceMethod y_Big_append ∈ gT := gT_in 355 (by decide +kernel) (by decide +kernel)
theorem kw_27_ : Cond.selects R_Big y_Big_append y_Big_append ∈ gT := gT_sel (by decide +kernel) (by decide +kernel)
theorem kw_28_ : Cond.methodLink R_Big 42 y_Big_limbAt ∈ gT := gT_in 402 (by decide +kernel) (by decide +kernel)
theorem kw_29_ : Cond.instanceMethod y_Big_limbAt ∈ gT := gT_in 404 (by decide +kernel) (by decide +kernel)
theorem kw_30_ : Cond.selects R_Big y_Big_limbAt y_Big_limbAt ∈ gT := gT_sel (by decide +kernel) (by decide +kernel)
theorem kw_31_ : Cond.static y_FW_tenTo ∈ gT := gT_in 374 (by decide +kernel) (by decide +kernel)
theorem kw_32_ : Cond.constantLong R_Big 45 (10) ∈ gT := gT_in 557 (by decide +kernel) (by decide +kernel)
theorem q_objectInit : Cond.code objectInit ⟨#[0xb1]⟩ 1 none ∈ gT := gT_in 24 (by decide +kernel) rfl
set_option maxRecDepth 100000 in
theorem q_y_Big_append : Cond.code y_Big_append b_Big_append 3 none ∈ gT := gT_in 356 rfl rfl
set_option maxRecDepth 100000 in
theorem q_y_Big_limbAt : Cond.code y_Big_limbAt b_Big_limbAt 2 (some .long) ∈ gT := gT_in 405 rfl rfl
set_option maxRecDepth 100000 in
theorem q_y_FW_tenTo : Cond.code y_FW_tenTo b_FW_tenTo 1 (some .long) ∈ gT := gT_in 375 rfl rfl
theorem hd_y_Big_append : y_Big_append.cls ≠ "java/lang/invoke/MethodHandle" ∧ y_Big_append.cls ≠ "java/lang/invoke/VarHandle" ∧ (parseMethodDescriptor y_Big_append.desc).map (fun d => d.parameters.length) = some 1 := by decide +kernel
theorem hd_y_Big_limbAt : y_Big_limbAt.cls ≠ "java/lang/invoke/MethodHandle" ∧ y_Big_limbAt.cls ≠ "java/lang/invoke/VarHandle" ∧ (parseMethodDescriptor y_Big_limbAt.desc).map (fun d => d.parameters.length) = some 1 := by decide +kernel
theorem hd_y_FW_tenTo : y_FW_tenTo.cls ≠ "java/lang/invoke/MethodHandle" ∧ y_FW_tenTo.cls ≠ "java/lang/invoke/VarHandle" ∧ (parseMethodDescriptor y_FW_tenTo.desc).map (fun d => d.parameters.length) = some 1 := by decide +kernel
theorem d_FW_tenTo_0 : decode b_FW_tenTo 0 = .ok (.iload_n 0, 1) := by decide +kernel
theorem d_FW_tenTo_1 : decode b_FW_tenTo 1 = .ok (.ifCond .lt 19, 3) := by decide +kernel
theorem d_FW_tenTo_4 : decode b_FW_tenTo 4 = .ok (.iload_n 0, 1) := by decide +kernel
theorem d_FW_tenTo_5 : decode b_FW_tenTo 5 = .ok (.getstatic 228, 3) := by decide +kernel
theorem d_FW_tenTo_8 : decode b_FW_tenTo 8 = .ok (.arraylength, 1) := by decide +kernel
theorem d_FW_tenTo_9 : decode b_FW_tenTo 9 = .ok (.if_icmp .ge 11, 3) := by decide +kernel
theorem d_FW_tenTo_12 : decode b_FW_tenTo 12 = .ok (.getstatic 228, 3) := by decide +kernel
theorem d_FW_tenTo_15 : decode b_FW_tenTo 15 = .ok (.iload_n 0, 1) := by decide +kernel
theorem d_FW_tenTo_16 : decode b_FW_tenTo 16 = .ok (.laload, 1) := by decide +kernel
theorem d_FW_tenTo_17 : decode b_FW_tenTo 17 = .ok (.goto 4, 3) := by decide +kernel
theorem d_FW_tenTo_20 : decode b_FW_tenTo 20 = .ok (.lconst 1, 1) := by decide +kernel
theorem d_FW_tenTo_21 : decode b_FW_tenTo 21 = .ok (.lreturn, 1) := by decide +kernel
theorem d_Big_init_0 : decode b_Big_init 0 = .ok (.aload_n 0, 1) := by decide +kernel
theorem d_Big_init_1 : decode b_Big_init 1 = .ok (.invokespecial 1, 3) := by decide +kernel
theorem d_Big_init_4 : decode b_Big_init 4 = .ok (.aload_n 0, 1) := by decide +kernel
theorem d_Big_init_5 : decode b_Big_init 5 = .ok (.bipush 124, 2) := by decide +kernel
theorem d_Big_init_7 : decode b_Big_init 7 = .ok (.newarray .long, 2) := by decide +kernel
theorem d_Big_init_9 : decode b_Big_init 9 = .ok (.putfield 9, 3) := by decide +kernel
theorem d_Big_init_12 : decode b_Big_init 12 = .ok (.aload_n 0, 1) := by decide +kernel
theorem d_Big_init_13 : decode b_Big_init 13 = .ok (.iconst 0, 1) := by decide +kernel
theorem d_Big_init_14 : decode b_Big_init 14 = .ok (.putfield 13, 3) := by decide +kernel
theorem d_Big_init_17 : decode b_Big_init 17 = .ok (.return_, 1) := by decide +kernel
theorem d_Big_append_0 : decode b_Big_append 0 = .ok (.aload_n 0, 1) := by decide +kernel
theorem d_Big_append_1 : decode b_Big_append 1 = .ok (.getfield 13, 3) := by decide +kernel
theorem d_Big_append_4 : decode b_Big_append 4 = .ok (.aload_n 0, 1) := by decide +kernel
theorem d_Big_append_5 : decode b_Big_append 5 = .ok (.getfield 9, 3) := by decide +kernel
theorem d_Big_append_8 : decode b_Big_append 8 = .ok (.arraylength, 1) := by decide +kernel
theorem d_Big_append_9 : decode b_Big_append 9 = .ok (.if_icmp .ge 23, 3) := by decide +kernel
theorem d_Big_append_12 : decode b_Big_append 12 = .ok (.aload_n 0, 1) := by decide +kernel
theorem d_Big_append_13 : decode b_Big_append 13 = .ok (.getfield 9, 3) := by decide +kernel
theorem d_Big_append_16 : decode b_Big_append 16 = .ok (.aload_n 0, 1) := by decide +kernel
theorem d_Big_append_17 : decode b_Big_append 17 = .ok (.getfield 13, 3) := by decide +kernel
theorem d_Big_append_20 : decode b_Big_append 20 = .ok (.lload_n 1, 1) := by decide +kernel
theorem d_Big_append_21 : decode b_Big_append 21 = .ok (.lastore, 1) := by decide +kernel
theorem d_Big_append_22 : decode b_Big_append 22 = .ok (.aload_n 0, 1) := by decide +kernel
theorem d_Big_append_23 : decode b_Big_append 23 = .ok (.dup, 1) := by decide +kernel
theorem d_Big_append_24 : decode b_Big_append 24 = .ok (.getfield 13, 3) := by decide +kernel
theorem d_Big_append_27 : decode b_Big_append 27 = .ok (.iconst 1, 1) := by decide +kernel
theorem d_Big_append_28 : decode b_Big_append 28 = .ok (.iadd, 1) := by decide +kernel
theorem d_Big_append_29 : decode b_Big_append 29 = .ok (.putfield 13, 3) := by decide +kernel
theorem d_Big_append_32 : decode b_Big_append 32 = .ok (.return_, 1) := by decide +kernel
theorem d_Big_setToOne_0 : decode b_Big_setToOne 0 = .ok (.aload_n 0, 1) := by decide +kernel
theorem d_Big_setToOne_1 : decode b_Big_setToOne 1 = .ok (.iconst 0, 1) := by decide +kernel
theorem d_Big_setToOne_2 : decode b_Big_setToOne 2 = .ok (.putfield 13, 3) := by decide +kernel
theorem d_Big_setToOne_5 : decode b_Big_setToOne 5 = .ok (.aload_n 0, 1) := by decide +kernel
theorem d_Big_setToOne_6 : decode b_Big_setToOne 6 = .ok (.lconst 1, 1) := by decide +kernel
theorem d_Big_setToOne_7 : decode b_Big_setToOne 7 = .ok (.invokevirtual 17, 3) := by decide +kernel
theorem d_Big_setToOne_10 : decode b_Big_setToOne 10 = .ok (.return_, 1) := by decide +kernel
theorem d_Big_isZero_0 : decode b_Big_isZero 0 = .ok (.aload_n 0, 1) := by decide +kernel
theorem d_Big_isZero_1 : decode b_Big_isZero 1 = .ok (.getfield 13, 3) := by decide +kernel
theorem d_Big_isZero_4 : decode b_Big_isZero 4 = .ok (.ifCond .ne 7, 3) := by decide +kernel
theorem d_Big_isZero_7 : decode b_Big_isZero 7 = .ok (.iconst 1, 1) := by decide +kernel
theorem d_Big_isZero_8 : decode b_Big_isZero 8 = .ok (.goto 4, 3) := by decide +kernel
theorem d_Big_isZero_11 : decode b_Big_isZero 11 = .ok (.iconst 0, 1) := by decide +kernel
theorem d_Big_isZero_12 : decode b_Big_isZero 12 = .ok (.ireturn, 1) := by decide +kernel
theorem d_Big_limbAt_0 : decode b_Big_limbAt 0 = .ok (.iload_n 1, 1) := by decide +kernel
theorem d_Big_limbAt_1 : decode b_Big_limbAt 1 = .ok (.ifCond .lt 20, 3) := by decide +kernel
theorem d_Big_limbAt_4 : decode b_Big_limbAt 4 = .ok (.iload_n 1, 1) := by decide +kernel
theorem d_Big_limbAt_5 : decode b_Big_limbAt 5 = .ok (.aload_n 0, 1) := by decide +kernel
theorem d_Big_limbAt_6 : decode b_Big_limbAt 6 = .ok (.getfield 13, 3) := by decide +kernel
theorem d_Big_limbAt_9 : decode b_Big_limbAt 9 = .ok (.if_icmp .ge 12, 3) := by decide +kernel
theorem d_Big_limbAt_12 : decode b_Big_limbAt 12 = .ok (.aload_n 0, 1) := by decide +kernel
theorem d_Big_limbAt_13 : decode b_Big_limbAt 13 = .ok (.getfield 9, 3) := by decide +kernel
theorem d_Big_limbAt_16 : decode b_Big_limbAt 16 = .ok (.iload_n 1, 1) := by decide +kernel
theorem d_Big_limbAt_17 : decode b_Big_limbAt 17 = .ok (.laload, 1) := by decide +kernel
theorem d_Big_limbAt_18 : decode b_Big_limbAt 18 = .ok (.goto 4, 3) := by decide +kernel
theorem d_Big_limbAt_21 : decode b_Big_limbAt 21 = .ok (.lconst 0, 1) := by decide +kernel
theorem d_Big_limbAt_22 : decode b_Big_limbAt 22 = .ok (.lreturn, 1) := by decide +kernel
theorem d_Big_figureAt_0 : decode b_Big_figureAt 0 = .ok (.iload_n 1, 1) := by decide +kernel
theorem d_Big_figureAt_1 : decode b_Big_figureAt 1 = .ok (.ifCond .ge 5, 3) := by decide +kernel
theorem d_Big_figureAt_4 : decode b_Big_figureAt 4 = .ok (.iconst 0, 1) := by decide +kernel
theorem d_Big_figureAt_5 : decode b_Big_figureAt 5 = .ok (.ireturn, 1) := by decide +kernel
theorem d_Big_figureAt_6 : decode b_Big_figureAt 6 = .ok (.aload_n 0, 1) := by decide +kernel
theorem d_Big_figureAt_7 : decode b_Big_figureAt 7 = .ok (.iload_n 1, 1) := by decide +kernel
theorem d_Big_figureAt_8 : decode b_Big_figureAt 8 = .ok (.bipush 9, 2) := by decide +kernel
theorem d_Big_figureAt_10 : decode b_Big_figureAt 10 = .ok (.idiv, 1) := by decide +kernel
theorem d_Big_figureAt_11 : decode b_Big_figureAt 11 = .ok (.invokevirtual 42, 3) := by decide +kernel
theorem d_Big_figureAt_14 : decode b_Big_figureAt 14 = .ok (.lstore_n 2, 1) := by decide +kernel
theorem d_Big_figureAt_15 : decode b_Big_figureAt 15 = .ok (.lload_n 2, 1) := by decide +kernel
theorem d_Big_figureAt_16 : decode b_Big_figureAt 16 = .ok (.iload_n 1, 1) := by decide +kernel
theorem d_Big_figureAt_17 : decode b_Big_figureAt 17 = .ok (.bipush 9, 2) := by decide +kernel
theorem d_Big_figureAt_19 : decode b_Big_figureAt 19 = .ok (.irem, 1) := by decide +kernel
theorem d_Big_figureAt_20 : decode b_Big_figureAt 20 = .ok (.invokestatic 36, 3) := by decide +kernel
theorem d_Big_figureAt_23 : decode b_Big_figureAt 23 = .ok (.ldiv, 1) := by decide +kernel
theorem d_Big_figureAt_24 : decode b_Big_figureAt 24 = .ok (.ldc2_w 45, 3) := by decide +kernel
theorem d_Big_figureAt_27 : decode b_Big_figureAt 27 = .ok (.lrem, 1) := by decide +kernel
theorem d_Big_figureAt_28 : decode b_Big_figureAt 28 = .ok (.l2i, 1) := by decide +kernel
theorem d_Big_figureAt_29 : decode b_Big_figureAt 29 = .ok (.ireturn, 1) := by decide +kernel
abbrev Qc_FW_tenTo (D : va_G) (k : Nat) (A : Nat → Prop) : Array Value → State → Outcome → State → Prop := vp_Sl (fun r : Int64 => r = lN (10 ^ k))
set_option maxHeartbeats 4000000 in
set_option maxRecDepth 100000 in
theorem c_FW_tenTo (l : Launch) (D : va_G) (Z : Nat → Nat) (hz9 : Nat) (k : Nat) (hk : k ≤ 18) : Met l y_FW_tenTo (.code y_FW_tenTo b_FW_tenTo 1 (some .long) :: gT) ({ frames := 0, cells := 0, slots := 0, locals := 0 } : Room) (va_Pc [.int (iZ (((k : Nat) : Int)))] (cpre D Z [] [] hz9)) (Qc_FW_tenTo D k (va_A [] hz9)) 0 0 (fun _ => False) := by
  refine met_go (Qf := Qc_FW_tenTo D k) (ff := fun _ _ => False) (by decide) ?_
  intro p e s m below meth c A C0 hin hsz9 hA hE hK hP hD
  obtain ⟨hx, hb, hml, hown, hts, hr, hlocks⟩ := id C0
  have hS : va_S A s.heap s.heap [] := va_S.rf
  have hl := lv_entry [.int (iZ (((k : Nat) : Int)))] (n := 1) (Nat.le_of_ble_eq_true rfl)
  rw [lg_entry_eq]
  generalize (lg_sl [.int (iZ (((k : Nat) : Int)))] ++ List.replicate (1 - (lg_sl [.int (iZ (((k : Nat) : Int)))]).length) Slot.unset).toArray = ls at hl ⊢
  have hl : lv_has ls 1 [(0, .int (iZ (((k : Nat) : Int))))] := hl
  obtain ⟨hZ, hT⟩ := hE.tens
  refine lv_iload_n hx hb d_FW_tenTo_0 rfl (lv_at hl 0 rfl) ?_
  refine zv_if_lt (tgt := 20) hx hb d_FW_tenTo_1 (by decide) (by omega) (fun c1 => absurd c1 (by omega)) (fun c1 => ?_)
  refine lv_iload_n hx hb d_FW_tenTo_4 rfl (lv_at hl 0 rfl) ?_
  refine va_gets (C := R_FW) hx hb hZ hS hown (hts _ kw_18_) (fun _ h9 => h9) d_FW_tenTo_5 ?_
  refine va_tlen (v := iZ 19) hx hb hT hS (by decide) d_FW_tenTo_8 ?_
  refine zv_icmp_ge (tgt := 20) hx hb d_FW_tenTo_9 (by decide) (by omega) (by omega) (fun c9 => absurd c9 (by omega)) (fun c9 => ?_)
  refine va_gets (C := R_FW) hx hb hZ hS hown (hts _ kw_18_) (fun _ h9 => h9) d_FW_tenTo_12 ?_
  refine lv_iload_n hx hb d_FW_tenTo_15 rfl (lv_at hl 0 rfl) ?_
  refine va_tl (v := .long (lN (10 ^ k))) hx hb hT hS (iZ_in (by omega) (by decide)) (by rw [iZ_cn rfl (by omega)]) d_FW_tenTo_16 ?_
  refine lv_goto (tgt := 21) hx hb d_FW_tenTo_17 (by decide) ?_
  exact er_l hx hb hr hlocks d_FW_tenTo_21 (show lN (10 ^ k) = lN (10 ^ k) from rfl)
abbrev Qc_Big_init (D : va_G) (h0 : Nat) (z0 : Int) (A : Nat → Prop) : Array Value → State → Outcome → State → Prop := va_Qv (fun u : Nat × ClassId => True) (fun (u : Nat × ClassId) t9 => cpost D A [(h0, .inr (2, [.ref (u.1), .int (iZ (0))])), ((u.1), .inl ((u.2), 124, .inr (.inl ((fun _ => 0)))))] [((u.2), .long)] t9) A
set_option maxHeartbeats 4000000 in
set_option maxRecDepth 100000 in
theorem c_Big_init (l : Launch) (D : va_G) (Z : Nat → Nat) (hz9 : Nat) (h0 : Nat) (z0 : Int)  : Met l y_Big_init (.code y_Big_init b_Big_init 1 none :: gT) ({ frames := 1, cells := 1, slots := 124, locals := 12 } : Room) (va_Pc [.ref h0] (cpre D Z [(h0, .inr (2, [.null, .int (iZ (z0))]))] [] hz9)) (Qc_Big_init D h0 z0 (va_A [(h0, .inr (2, [.null, .int (iZ (z0))]))] hz9)) 1 124 (va_A [(h0, .inr (2, [.null, .int (iZ (z0))]))] hz9) := by
  refine met_go (Qf := Qc_Big_init D h0 z0) (ff := fun A => A) (by decide) ?_
  intro p e s m below meth c A C0 hin hsz9 hA hE hK hP hD
  obtain ⟨hx, hb, hml, hown, hts, hr, hlocks⟩ := id C0
  have hS : va_S A s.heap s.heap [] := va_S.rf
  have hl := lv_entry [.ref h0] (n := 1) (Nat.le_of_ble_eq_true rfl)
  rw [lg_entry_eq]
  generalize (lg_sl [.ref h0] ++ List.replicate (1 - (lg_sl [.ref h0]).length) Slot.unset).toArray = ls at hl ⊢
  have hl : lv_has ls 1 [(0, .ref h0)] := hl
  refine lv_aload_n hx hb d_Big_init_0 rfl (lv_at hl 0 rfl) ?_
  refine W.objInit hx hb hown (hts _ kw_19_) (hts _ kw_20_) (hts _ q_objectInit) rfl (by rw [hml]; exact hl.1) rfl d_Big_init_1 (Nat.le_of_ble_eq_true rfl) (Nat.le_of_ble_eq_true rfl) ?_
  refine W.eq (g2 := F0 m 4 ls []) rfl ?_
  refine lv_aload_n hx hb d_Big_init_4 rfl (lv_at hl 0 rfl) ?_
  refine lv_bipush (v := iZ (124)) hx hb d_Big_init_5 (by decide) ?_
  refine va_newa (atype := .long) (N' := 124) (a0 := (124, .inr (.inl (fun _ => 0)))) (ty := .long) hx hb (hts _ kw_21_) rfl hK hP hD hS hA (fun _ => rfl) (by decide) (by decide) (by decide) (Nat.le_of_ble_eq_true rfl) (Nat.le_of_ble_eq_true rfl) d_Big_init_7 (fun q7 cA7 H hK hP hD hS => ?_)
  refine W.widen (k := 1) (n := 124) (by decide) (by decide) ?_
  have hP : va_P D classes [(h0, .inr (2, [.null, .int (iZ (z0))])), (q7, .inl (cA7, 124, .inr (.inl ((fun _ => 0)))))] H := hP
  have hD : va_D A [(h0, .inr (2, [.null, .int (iZ (z0))])), (q7, .inl (cA7, 124, .inr (.inl ((fun _ => 0)))))] := hD
  have hK : va_K D classes [(cA7, .long)] s := hK
  refine va_putF (D := D) (ci := 2) (v := .ref q7) (ty := .array .long) (C := R_Big) (T := F_Big) (N := 2) hx hb hts i_Big t_Big t_Big_ok n_Big hown hK hP hD hS 0 rfl rfl 0 (by decide) (hts _ kw_22_) (fun _ h9 => h9) rfl hin rfl (by decide +kernel) rfl rfl (Nat.le_of_ble_eq_true rfl) d_Big_init_9 (fun H locs hP hD hS => ?_)
  have hP : va_P D classes [(h0, .inr (2, [.ref q7, .int (iZ (z0))])), (q7, .inl (cA7, 124, .inr (.inl ((fun _ => 0)))))] H := hP
  have hD : va_D A [(h0, .inr (2, [.ref q7, .int (iZ (z0))])), (q7, .inl (cA7, 124, .inr (.inl ((fun _ => 0)))))] := hD
  refine lv_aload_n hx hb d_Big_init_12 rfl (lv_at hl 0 rfl) ?_
  refine lv_iconst (v := iZ (0)) hx hb d_Big_init_13 rfl ?_
  refine va_put (D := D) (ci := 2) (v := .int (iZ (0))) (ty := .int) (C := R_Big) (T := F_Big) (N := 2) hx hb hts i_Big t_Big t_Big_ok n_Big hown hK hP hD hS 0 rfl rfl 1 (by decide) (hts _ kw_23_) (fun _ h9 => h9) rfl (by decide +kernel) rfl rfl (Nat.le_of_ble_eq_true rfl) d_Big_init_14 (fun H locs hP hD hS => ?_)
  have hP : va_P D classes [(h0, .inr (2, [.ref q7, .int (iZ (0))])), (q7, .inl (cA7, 124, .inr (.inl ((fun _ => 0)))))] H := hP
  have hD : va_D A [(h0, .inr (2, [.ref q7, .int (iZ (0))])), (q7, .inl (cA7, 124, .inr (.inl ((fun _ => 0)))))] := hD
  exact ew_v (q7, cA7) hx hb hr hlocks d_Big_init_17 (trivial) (hP.sub (ws' := [(h0, .inr (2, [.ref q7, .int (iZ (0))])), (q7, .inl (cA7, 124, .inr (.inl ((fun _ => 0)))))]) [0, 1] rfl) (hD.sub (ws' := [(h0, .inr (2, [.ref q7, .int (iZ (0))])), (q7, .inl (cA7, 124, .inr (.inl ((fun _ => 0)))))]) [0, 1] (by decide) rfl) (hK.sub (tys' := [(cA7, .long)]) [0] rfl) hS (Nat.le_of_ble_eq_true rfl) (Nat.le_of_ble_eq_true rfl)
abbrev Qc_Big_append (D : va_G) (h0 : Nat) (q0 : Nat) (cA0 : ClassId) (f : Nat → Int64) (n : Nat) (x : Nat) (A : Nat → Prop) : Array Value → State → Outcome → State → Prop := va_Qv (fun u : Unit => True) (fun (u : Unit) t9 => cpost D A [(h0, .inr (2, [.ref q0, .int (iZ (((n + 1 : Nat) : Int)))])), (q0, .inl (cA0, 124, .inr (.inl (vp_updL f n (lN x)))))] [(cA0, .long)] t9) A
set_option maxHeartbeats 4000000 in
set_option maxRecDepth 100000 in
theorem c_Big_append (l : Launch) (D : va_G) (Z : Nat → Nat) (hz9 : Nat) (h0 : Nat) (q0 : Nat) (cA0 : ClassId) (f : Nat → Int64) (n : Nat) (x : Nat) (hn : n < 124) : Met l y_Big_append (.code y_Big_append b_Big_append 3 none :: gT) ({ frames := 0, cells := 0, slots := 0, locals := 0 } : Room) (va_Pc [.ref h0, .long (lN (x))] (cpre D Z [(h0, .inr (2, [.ref q0, .int (iZ (((n : Nat) : Int)))])), (q0, .inl (cA0, 124, .inr (.inl f)))] [(cA0, .long)] hz9)) (Qc_Big_append D h0 q0 cA0 f n x (va_A [(h0, .inr (2, [.ref q0, .int (iZ (((n : Nat) : Int)))])), (q0, .inl (cA0, 124, .inr (.inl f)))] hz9)) 0 0 (va_A [(h0, .inr (2, [.ref q0, .int (iZ (((n : Nat) : Int)))])), (q0, .inl (cA0, 124, .inr (.inl f)))] hz9) := by
  refine met_go (Qf := Qc_Big_append D h0 q0 cA0 f n x) (ff := fun A => A) (by decide) ?_
  intro p e s m below meth c A C0 hin hsz9 hA hE hK hP hD
  obtain ⟨hx, hb, hml, hown, hts, hr, hlocks⟩ := id C0
  have hS : va_S A s.heap s.heap [] := va_S.rf
  have hl := lv_entry [.ref h0, .long (lN (x))] (n := 3) (Nat.le_of_ble_eq_true rfl)
  rw [lg_entry_eq]
  generalize (lg_sl [.ref h0, .long (lN (x))] ++ List.replicate (3 - (lg_sl [.ref h0, .long (lN (x))]).length) Slot.unset).toArray = ls at hl ⊢
  have hl : lv_has ls 3 [(0, .ref h0), (1, .long (lN (x)))] := hl
  refine lv_aload_n hx hb d_Big_append_0 rfl (lv_at hl 0 rfl) ?_
  refine va_get (D := D) (ci := 2) (v := .int (iZ (((n : Nat) : Int)))) (C := R_Big) (T := F_Big) (N := 2) hx hb hts i_Big hown hK hP 0 rfl rfl 1 (by decide) (hts _ kw_23_) (fun _ h9 => h9) rfl d_Big_append_1 ?_
  refine lv_aload_n hx hb d_Big_append_4 rfl (lv_at hl 0 rfl) ?_
  refine va_get (D := D) (ci := 2) (v := .ref q0) (C := R_Big) (T := F_Big) (N := 2) hx hb hts i_Big hown hK hP 0 rfl rfl 0 (by decide) (hts _ kw_22_) (fun _ h9 => h9) rfl d_Big_append_5 ?_
  refine zv_alen hx hb hK hP 1 0 rfl rfl d_Big_append_8 ?_
  refine zv_icmp_ge (tgt := 32) hx hb d_Big_append_9 (by decide) (by omega) (by omega) (fun c9 => absurd c9 (by omega)) (fun c9 => ?_)
  refine lv_aload_n hx hb d_Big_append_12 rfl (lv_at hl 0 rfl) ?_
  refine va_get (D := D) (ci := 2) (v := .ref q0) (C := R_Big) (T := F_Big) (N := 2) hx hb hts i_Big hown hK hP 0 rfl rfl 0 (by decide) (hts _ kw_22_) (fun _ h9 => h9) rfl d_Big_append_13 ?_
  refine lv_aload_n hx hb d_Big_append_16 rfl (lv_at hl 0 rfl) ?_
  refine va_get (D := D) (ci := 2) (v := .int (iZ (((n : Nat) : Int)))) (C := R_Big) (T := F_Big) (N := 2) hx hb hts i_Big hown hK hP 0 rfl rfl 1 (by decide) (hts _ kw_23_) (fun _ h9 => h9) rfl d_Big_append_17 ?_
  refine lv_lload_n hx hb d_Big_append_20 rfl (lv_at hl 1 rfl) ?_
  refine zv_last hx hb hK hP hD hS 1 0 rfl rfl n (by omega) (by omega) (by decide) d_Big_append_21 (fun H locs hP hD hS => ?_)
  have hP : va_P D classes [(h0, .inr (2, [.ref q0, .int (iZ (((n : Nat) : Int)))])), (q0, .inl (cA0, 124, .inr (.inl (vp_updL f n (lN (x))))))] H := hP
  have hD : va_D A [(h0, .inr (2, [.ref q0, .int (iZ (((n : Nat) : Int)))])), (q0, .inl (cA0, 124, .inr (.inl (vp_updL f n (lN (x))))))] := hD
  refine lv_aload_n hx hb d_Big_append_22 rfl (lv_at hl 0 rfl) ?_
  refine lv_dup hx hb d_Big_append_23 rfl ?_
  refine va_get (D := D) (ci := 2) (v := .int (iZ (((n : Nat) : Int)))) (C := R_Big) (T := F_Big) (N := 2) hx hb hts i_Big hown hK hP 0 rfl rfl 1 (by decide) (hts _ kw_23_) (fun _ h9 => h9) rfl d_Big_append_24 ?_
  refine lv_iconst (v := iZ (1)) hx hb d_Big_append_27 rfl ?_
  refine zv_iadd hx hb d_Big_append_28 ?_
  refine zv_top (y := iZ (((n + 1 : Nat) : Int))) (congrArg iZ (by omega)) ?_
  refine va_put (D := D) (ci := 2) (v := .int (iZ (((n + 1 : Nat) : Int)))) (ty := .int) (C := R_Big) (T := F_Big) (N := 2) hx hb hts i_Big t_Big t_Big_ok n_Big hown hK hP hD hS 0 rfl rfl 1 (by decide) (hts _ kw_23_) (fun _ h9 => h9) rfl (by decide +kernel) rfl rfl (Nat.le_of_ble_eq_true rfl) d_Big_append_29 (fun H locs hP hD hS => ?_)
  have hP : va_P D classes [(h0, .inr (2, [.ref q0, .int (iZ (((n + 1 : Nat) : Int)))])), (q0, .inl (cA0, 124, .inr (.inl (vp_updL f n (lN (x))))))] H := hP
  have hD : va_D A [(h0, .inr (2, [.ref q0, .int (iZ (((n + 1 : Nat) : Int)))])), (q0, .inl (cA0, 124, .inr (.inl (vp_updL f n (lN (x))))))] := hD
  exact ew_v () hx hb hr hlocks d_Big_append_32 (trivial) (hP.sub (ws' := [(h0, .inr (2, [.ref q0, .int (iZ (((n + 1 : Nat) : Int)))])), (q0, .inl (cA0, 124, .inr (.inl (vp_updL f n (lN x)))))]) [0, 1] rfl) (hD.sub (ws' := [(h0, .inr (2, [.ref q0, .int (iZ (((n + 1 : Nat) : Int)))])), (q0, .inl (cA0, 124, .inr (.inl (vp_updL f n (lN x)))))]) [0, 1] (by decide) rfl) (hK.sub (tys' := [(cA0, .long)]) [0] rfl) hS (Nat.le_of_ble_eq_true rfl) (Nat.le_of_ble_eq_true rfl)
abbrev Qc_Big_setToOne (D : va_G) (h0 : Nat) (q0 : Nat) (cA0 : ClassId) (f : Nat → Int64) (n : Nat) (A : Nat → Prop) : Array Value → State → Outcome → State → Prop := va_Qv (fun u : Unit => True) (fun (u : Unit) t9 => cpost D A [(h0, .inr (2, [.ref q0, .int (iZ (((1 : Nat) : Int)))])), (q0, .inl (cA0, 124, .inr (.inl (vp_updL f 0 (lN 1)))))] [(cA0, .long)] t9) A
set_option maxHeartbeats 4000000 in
set_option maxRecDepth 100000 in
theorem c_Big_setToOne (l : Launch) (D : va_G) (Z : Nat → Nat) (hz9 : Nat) (h0 : Nat) (q0 : Nat) (cA0 : ClassId) (f : Nat → Int64) (n : Nat)  : Met l y_Big_setToOne (.code y_Big_setToOne b_Big_setToOne 1 none :: gT) ({ frames := 1, cells := 0, slots := 0, locals := 22 } : Room) (va_Pc [.ref h0] (cpre D Z [(h0, .inr (2, [.ref q0, .int (iZ (((n : Nat) : Int)))])), (q0, .inl (cA0, 124, .inr (.inl f)))] [(cA0, .long)] hz9)) (Qc_Big_setToOne D h0 q0 cA0 f n (va_A [(h0, .inr (2, [.ref q0, .int (iZ (((n : Nat) : Int)))])), (q0, .inl (cA0, 124, .inr (.inl f)))] hz9)) 0 0 (va_A [(h0, .inr (2, [.ref q0, .int (iZ (((n : Nat) : Int)))])), (q0, .inl (cA0, 124, .inr (.inl f)))] hz9) := by
  refine met_go (Qf := Qc_Big_setToOne D h0 q0 cA0 f n) (ff := fun A => A) (by decide) ?_
  intro p e s m below meth c A C0 hin hsz9 hA hE hK hP hD
  obtain ⟨hx, hb, hml, hown, hts, hr, hlocks⟩ := id C0
  have hS : va_S A s.heap s.heap [] := va_S.rf
  have hl := lv_entry [.ref h0] (n := 1) (Nat.le_of_ble_eq_true rfl)
  rw [lg_entry_eq]
  generalize (lg_sl [.ref h0] ++ List.replicate (1 - (lg_sl [.ref h0]).length) Slot.unset).toArray = ls at hl ⊢
  have hl : lv_has ls 1 [(0, .ref h0)] := hl
  refine lv_aload_n hx hb d_Big_setToOne_0 rfl (lv_at hl 0 rfl) ?_
  refine lv_iconst (v := iZ (0)) hx hb d_Big_setToOne_1 rfl ?_
  refine va_put (D := D) (ci := 2) (v := .int (iZ (0))) (ty := .int) (C := R_Big) (T := F_Big) (N := 2) hx hb hts i_Big t_Big t_Big_ok n_Big hown hK hP hD hS 0 rfl rfl 1 (by decide) (hts _ kw_23_) (fun _ h9 => h9) rfl (by decide +kernel) rfl rfl (Nat.le_of_ble_eq_true rfl) d_Big_setToOne_2 (fun H locs hP hD hS => ?_)
  have hP : va_P D classes [(h0, .inr (2, [.ref q0, .int (iZ (0))])), (q0, .inl (cA0, 124, .inr (.inl f)))] H := hP
  have hD : va_D A [(h0, .inr (2, [.ref q0, .int (iZ (0))])), (q0, .inl (cA0, 124, .inr (.inl f)))] := hD
  refine lv_aload_n hx hb d_Big_setToOne_5 rfl (lv_at hl 0 rfl) ?_
  refine lv_lconst (v := lN 1) hx hb d_Big_setToOne_6 rfl ?_
  refine kw_v (wr := []) (tr := []) (kr_V (C0 := R_Big) (ci := 2) (i0 := 0) (As := [.long (lN (1))]) (rest := []) C0 (c_Big_append l D Z _ h0 q0 cA0 f 0 1 (by omega)) q_y_Big_append kw_25_ kw_26_ kw_27_ kw_24_ hd_y_Big_append rfl rfl ⟨Nat.le_of_ble_eq_true rfl, Nat.le_of_ble_eq_true rfl⟩ (hP.sub (ws' := [(h0, .inr (2, [.ref q0, .int (iZ (((0 : Nat) : Int)))])), (q0, .inl (cA0, 124, .inr (.inl f)))]) [0, 1] rfl) (hD.sub (ws' := [(h0, .inr (2, [.ref q0, .int (iZ (((0 : Nat) : Int)))])), (q0, .inl (cA0, 124, .inr (.inl f)))]) [0, 1] (by decide) rfl) (hK.sub (tys' := [(cA0, .long)]) [0] rfl) hE hS (va_free (wc := [(h0, .inr (2, [.ref q0, .int (iZ (((0 : Nat) : Int)))])), (q0, .inl (cA0, 124, .inr (.inl f)))]) hD hS hA [0, 1] rfl) rfl rfl rfl hl.1 rfl (Nat.le_of_ble_eq_true rfl) d_Big_setToOne_7 ⟨Nat.le_of_ble_eq_true rfl, Nat.le_of_ble_eq_true rfl⟩) hP hD hK hS hA [0, 1] [] [] rfl rfl (by decide) (by decide) rfl (fun u H locs hpost hP hD hK hS => ?_)
  have hP : va_P D classes [(h0, .inr (2, [.ref q0, .int (iZ (((0 + 1 : Nat) : Int)))])), (q0, .inl (cA0, 124, .inr (.inl (vp_updL f 0 (lN 1)))))] H := hP
  have hD : va_D A [(h0, .inr (2, [.ref q0, .int (iZ (((0 + 1 : Nat) : Int)))])), (q0, .inl (cA0, 124, .inr (.inl (vp_updL f 0 (lN 1)))))] := hD
  have hK : va_K D classes [(cA0, .long)] s := hK
  exact ew_v () hx hb hr hlocks d_Big_setToOne_10 (trivial) (hP.sub (ws' := [(h0, .inr (2, [.ref q0, .int (iZ (((1 : Nat) : Int)))])), (q0, .inl (cA0, 124, .inr (.inl (vp_updL f 0 (lN 1)))))]) [0, 1] rfl) (hD.sub (ws' := [(h0, .inr (2, [.ref q0, .int (iZ (((1 : Nat) : Int)))])), (q0, .inl (cA0, 124, .inr (.inl (vp_updL f 0 (lN 1)))))]) [0, 1] (by decide) rfl) (hK.sub (tys' := [(cA0, .long)]) [0] rfl) hS (Nat.le_of_ble_eq_true rfl) (Nat.le_of_ble_eq_true rfl)
abbrev Qc_Big_isZero (D : va_G) (h0 : Nat) (q0 : Nat) (cA0 : ClassId) (f : Nat → Int64) (n : Nat) (v : Nat) (A : Nat → Prop) : Array Value → State → Outcome → State → Prop := vp_Si (fun r : Int32 => r = bZ (v = 0))
set_option maxHeartbeats 4000000 in
set_option maxRecDepth 100000 in
theorem c_Big_isZero (l : Launch) (D : va_G) (Z : Nat → Nat) (hz9 : Nat) (h0 : Nat) (q0 : Nat) (cA0 : ClassId) (f : Nat → Int64) (n : Nat) (v : Nat) (hB : BigIs f n v) : Met l y_Big_isZero (.code y_Big_isZero b_Big_isZero 1 (some .boolean) :: gT) ({ frames := 0, cells := 0, slots := 0, locals := 0 } : Room) (va_Pc [.ref h0] (cpre D Z [(h0, .inr (2, [.ref q0, .int (iZ (((n : Nat) : Int)))])), (q0, .inl (cA0, 124, .inr (.inl f)))] [(cA0, .long)] hz9)) (Qc_Big_isZero D h0 q0 cA0 f n v (va_A [(h0, .inr (2, [.ref q0, .int (iZ (((n : Nat) : Int)))])), (q0, .inl (cA0, 124, .inr (.inl f)))] hz9)) 0 0 (fun _ => False) := by
  refine met_go (Qf := Qc_Big_isZero D h0 q0 cA0 f n v) (ff := fun _ _ => False) (by decide) ?_
  intro p e s m below meth c A C0 hin hsz9 hA hE hK hP hD
  obtain ⟨hx, hb, hml, hown, hts, hr, hlocks⟩ := id C0
  have hS : va_S A s.heap s.heap [] := va_S.rf
  have hl := lv_entry [.ref h0] (n := 1) (Nat.le_of_ble_eq_true rfl)
  rw [lg_entry_eq]
  generalize (lg_sl [.ref h0] ++ List.replicate (1 - (lg_sl [.ref h0]).length) Slot.unset).toArray = ls at hl ⊢
  have hl : lv_has ls 1 [(0, .ref h0)] := hl
  refine lv_aload_n hx hb d_Big_isZero_0 rfl (lv_at hl 0 rfl) ?_
  refine va_get (D := D) (ci := 2) (v := .int (iZ (((n : Nat) : Int)))) (C := R_Big) (T := F_Big) (N := 2) hx hb hts i_Big hown hK hP 0 rfl rfl 1 (by decide) (hts _ kw_23_) (fun _ h9 => h9) rfl d_Big_isZero_1 ?_
  refine zv_if_ne (tgt := 11) hx hb d_Big_isZero_4 (by decide) (by have := hB.1; omega) (fun c4 => ?_) (fun c4 => ?_)
  · have q4 : ¬ v = 0 := fun q => c4 (by have := hB.zero.mp q; omega)
    refine lv_iconst (v := iZ (0)) hx hb d_Big_isZero_11 rfl ?_
    exact er_z hx hb hr hlocks (by decide) d_Big_isZero_12 (show iZ (0) = bZ (v = 0) from by first | exact (bZ_t q4).symm | exact (bZ_f q4).symm)
  · have q4 : v = 0 := hB.zero.mpr (by omega)
    refine lv_iconst (v := iZ (1)) hx hb d_Big_isZero_7 rfl ?_
    refine lv_goto (tgt := 12) hx hb d_Big_isZero_8 (by decide) ?_
    exact er_z hx hb hr hlocks (by decide) d_Big_isZero_12 (show iZ (1) = bZ (v = 0) from by first | exact (bZ_t q4).symm | exact (bZ_f q4).symm)
abbrev Qc_Big_limbAt (D : va_G) (h0 : Nat) (q0 : Nat) (cA0 : ClassId) (f : Nat → Int64) (n : Nat) (v : Nat) (i : Nat) (A : Nat → Prop) : Array Value → State → Outcome → State → Prop := vp_Sl (fun r : Int64 => r = lN (dg v i))
set_option maxHeartbeats 4000000 in
set_option maxRecDepth 100000 in
theorem c_Big_limbAt (l : Launch) (D : va_G) (Z : Nat → Nat) (hz9 : Nat) (h0 : Nat) (q0 : Nat) (cA0 : ClassId) (f : Nat → Int64) (n : Nat) (v : Nat) (i : Nat) (hB : BigIs f n v) (hi : i < 2147483648) : Met l y_Big_limbAt (.code y_Big_limbAt b_Big_limbAt 2 (some .long) :: gT) ({ frames := 0, cells := 0, slots := 0, locals := 0 } : Room) (va_Pc [.ref h0, .int (iZ (((i : Nat) : Int)))] (cpre D Z [(h0, .inr (2, [.ref q0, .int (iZ (((n : Nat) : Int)))])), (q0, .inl (cA0, 124, .inr (.inl f)))] [(cA0, .long)] hz9)) (Qc_Big_limbAt D h0 q0 cA0 f n v i (va_A [(h0, .inr (2, [.ref q0, .int (iZ (((n : Nat) : Int)))])), (q0, .inl (cA0, 124, .inr (.inl f)))] hz9)) 0 0 (fun _ => False) := by
  refine met_go (Qf := Qc_Big_limbAt D h0 q0 cA0 f n v i) (ff := fun _ _ => False) (by decide) ?_
  intro p e s m below meth c A C0 hin hsz9 hA hE hK hP hD
  obtain ⟨hx, hb, hml, hown, hts, hr, hlocks⟩ := id C0
  have hS : va_S A s.heap s.heap [] := va_S.rf
  have hl := lv_entry [.ref h0, .int (iZ (((i : Nat) : Int)))] (n := 2) (Nat.le_of_ble_eq_true rfl)
  rw [lg_entry_eq]
  generalize (lg_sl [.ref h0, .int (iZ (((i : Nat) : Int)))] ++ List.replicate (2 - (lg_sl [.ref h0, .int (iZ (((i : Nat) : Int)))]).length) Slot.unset).toArray = ls at hl ⊢
  have hl : lv_has ls 2 [(0, .ref h0), (1, .int (iZ (((i : Nat) : Int))))] := hl
  refine lv_iload_n hx hb d_Big_limbAt_0 rfl (lv_at hl 1 rfl) ?_
  refine zv_if_lt (tgt := 21) hx hb d_Big_limbAt_1 (by decide) (by omega) (fun c1 => absurd c1 (by omega)) (fun c1 => ?_)
  refine lv_iload_n hx hb d_Big_limbAt_4 rfl (lv_at hl 1 rfl) ?_
  refine lv_aload_n hx hb d_Big_limbAt_5 rfl (lv_at hl 0 rfl) ?_
  refine va_get (D := D) (ci := 2) (v := .int (iZ (((n : Nat) : Int)))) (C := R_Big) (T := F_Big) (N := 2) hx hb hts i_Big hown hK hP 0 rfl rfl 1 (by decide) (hts _ kw_23_) (fun _ h9 => h9) rfl d_Big_limbAt_6 ?_
  refine zv_icmp_ge (tgt := 21) hx hb d_Big_limbAt_9 (by decide) (by omega) (by have := hB.1; omega) (fun c9 => ?_) (fun c9 => ?_)
  · refine lv_lconst (v := lN 0) hx hb d_Big_limbAt_21 rfl ?_
    exact er_l hx hb hr hlocks d_Big_limbAt_22 (show lN (0) = lN (dg v i) from by first | rfl | exact congrArg lN (hB.limb (by omega)).symm)
  · refine lv_aload_n hx hb d_Big_limbAt_12 rfl (lv_at hl 0 rfl) ?_
    refine va_get (D := D) (ci := 2) (v := .ref q0) (C := R_Big) (T := F_Big) (N := 2) hx hb hts i_Big hown hK hP 0 rfl rfl 0 (by decide) (hts _ kw_22_) (fun _ h9 => h9) rfl d_Big_limbAt_13 ?_
    refine lv_iload_n hx hb d_Big_limbAt_16 rfl (lv_at hl 1 rfl) ?_
    refine zv_lald hx hb hK hP 1 0 rfl rfl i (by omega) (by have := hB.1; omega) (by decide) d_Big_limbAt_17 ?_
    refine nv_top (y := lN (dg v i)) (hB.2.1.1 i (by omega)) ?_
    refine lv_goto (tgt := 22) hx hb d_Big_limbAt_18 (by decide) ?_
    exact er_l hx hb hr hlocks d_Big_limbAt_22 (show lN (dg v i) = lN (dg v i) from by first | rfl | exact congrArg lN (hB.limb (by omega)).symm)
abbrev Qc_Big_figureAt (D : va_G) (h0 : Nat) (q0 : Nat) (cA0 : ClassId) (f : Nat → Int64) (n : Nat) (v : Nat) (z : Int) (A : Nat → Prop) : Array Value → State → Outcome → State → Prop := vp_Si (fun r : Int32 => r = iZ (((figAt v z : Nat) : Int)))
set_option maxHeartbeats 4000000 in
set_option maxRecDepth 100000 in
theorem c_Big_figureAt (l : Launch) (D : va_G) (Z : Nat → Nat) (hz9 : Nat) (h0 : Nat) (q0 : Nat) (cA0 : ClassId) (f : Nat → Int64) (n : Nat) (v : Nat) (z : Int) (hB : BigIs f n v) (hz : -2147483648 ≤ z ∧ z < 2147483648) : Met l y_Big_figureAt (.code y_Big_figureAt b_Big_figureAt 4 (some .int) :: gT) ({ frames := 1, cells := 0, slots := 0, locals := 21 } : Room) (va_Pc [.ref h0, .int (iZ (z))] (cpre D Z [(h0, .inr (2, [.ref q0, .int (iZ (((n : Nat) : Int)))])), (q0, .inl (cA0, 124, .inr (.inl f)))] [(cA0, .long)] hz9)) (Qc_Big_figureAt D h0 q0 cA0 f n v z (va_A [(h0, .inr (2, [.ref q0, .int (iZ (((n : Nat) : Int)))])), (q0, .inl (cA0, 124, .inr (.inl f)))] hz9)) 0 0 (fun _ => False) := by
  refine met_go (Qf := Qc_Big_figureAt D h0 q0 cA0 f n v z) (ff := fun _ _ => False) (by decide) ?_
  intro p e s m below meth c A C0 hin hsz9 hA hE hK hP hD
  obtain ⟨hx, hb, hml, hown, hts, hr, hlocks⟩ := id C0
  have hS : va_S A s.heap s.heap [] := va_S.rf
  have hl := lv_entry [.ref h0, .int (iZ (z))] (n := 4) (Nat.le_of_ble_eq_true rfl)
  rw [lg_entry_eq]
  generalize (lg_sl [.ref h0, .int (iZ (z))] ++ List.replicate (4 - (lg_sl [.ref h0, .int (iZ (z))]).length) Slot.unset).toArray = ls at hl ⊢
  have hl : lv_has ls 4 [(0, .ref h0), (1, .int (iZ (z)))] := hl
  refine lv_iload_n hx hb d_Big_figureAt_0 rfl (lv_at hl 1 rfl) ?_
  refine zv_if_ge (tgt := 6) hx hb d_Big_figureAt_1 (by decide) (by omega) (fun c1 => ?_) (fun c1 => ?_)
  · obtain ⟨k, hk⟩ : ∃ k : Nat, z = (k : Int) := ⟨z.toNat, by omega⟩
    refine lv_aload_n hx hb d_Big_figureAt_6 rfl (lv_at hl 0 rfl) ?_
    refine lv_iload_n hx hb d_Big_figureAt_7 rfl (lv_at hl 1 rfl) ?_
    refine lv_bipush (v := iZ (9)) hx hb d_Big_figureAt_8 (by decide) ?_
    refine zv_idiv hx hb d_Big_figureAt_10 (by omega) (by omega) ?_
    refine zv_top (y := iZ (((k / 9 : Nat) : Int))) (congrArg iZ (by omega)) ?_
    refine kg_l (kr_V (C0 := R_Big) (ci := 2) (i0 := 0) (As := [.int (iZ (((k / 9 : Nat) : Int)))]) (rest := []) C0 (c_Big_limbAt l D Z _ h0 q0 cA0 f n v (k / 9) (by assumption) (by omega)) q_y_Big_limbAt kw_28_ kw_29_ kw_30_ kw_24_ hd_y_Big_limbAt rfl rfl ⟨Nat.le_of_ble_eq_true rfl, Nat.le_of_ble_eq_true rfl⟩ (hP.sub (ws' := [(h0, .inr (2, [.ref q0, .int (iZ (((n : Nat) : Int)))])), (q0, .inl (cA0, 124, .inr (.inl f)))]) [0, 1] rfl) (hD.sub (ws' := [(h0, .inr (2, [.ref q0, .int (iZ (((n : Nat) : Int)))])), (q0, .inl (cA0, 124, .inr (.inl f)))]) [0, 1] (by decide) rfl) (hK.sub (tys' := [(cA0, .long)]) [0] rfl) hE hS (va_free (wc := [(h0, .inr (2, [.ref q0, .int (iZ (((n : Nat) : Int)))])), (q0, .inl (cA0, 124, .inr (.inl f)))]) hD hS hA [0, 1] rfl) rfl rfl rfl hl.1 rfl (Nat.le_of_ble_eq_true rfl) d_Big_figureAt_11 ⟨Nat.le_of_ble_eq_true rfl, Nat.le_of_ble_eq_true rfl⟩) (fun r hr1 => ?_)
    obtain rfl : r = lN (dg v (k / 9)) := hr1
    refine lv_lstore_n (lv' := [(2, .long (lN (dg v (k / 9)))), (0, .ref h0), (1, .int (iZ (z)))]) hx hb d_Big_figureAt_14 rfl hl (by decide) rfl (fun ls hl => ?_)
    refine lv_lload_n hx hb d_Big_figureAt_15 rfl (lv_at hl 0 rfl) ?_
    refine lv_iload_n hx hb d_Big_figureAt_16 rfl (lv_at hl 2 rfl) ?_
    refine lv_bipush (v := iZ (9)) hx hb d_Big_figureAt_17 (by decide) ?_
    refine zv_irem hx hb d_Big_figureAt_19 (by omega) (by omega) ?_
    refine zv_top (y := iZ (((k % 9 : Nat) : Int))) (congrArg iZ (by omega)) ?_
    refine kg_l (kr_SN (host := R_FW) (As := [.int (iZ (((k % 9 : Nat) : Int)))]) (rest := [.long (lN (dg v (k / 9)))]) C0 (c_FW_tenTo l D Z _ (k % 9) (by omega)) q_y_FW_tenTo (hE.nw 3 rfl) kw_31_ kw_3_ hd_y_FW_tenTo rfl rfl ⟨Nat.le_of_ble_eq_true rfl, Nat.le_of_ble_eq_true rfl⟩ (hP.sub (ws' := []) [] rfl) (hD.sub (ws' := []) [] (by decide) rfl) (hK.sub (tys' := []) [] rfl) hE hS (va_free (wc := []) hD hS hA [] rfl) rfl hl.1 rfl (Nat.le_of_ble_eq_true rfl) d_Big_figureAt_20 ⟨Nat.le_of_ble_eq_true rfl, Nat.le_of_ble_eq_true rfl⟩) (fun r hr1 => ?_)
    obtain rfl : r = lN (10 ^ (k % 9)) := hr1
    refine nv_ldiv hx hb d_Big_figureAt_23 (by have := dg_lt v (k / 9); omega) (Nat.pow_pos (by decide)) (ten_63 (by omega)) ?_
    refine lv_ldc2 (v := (10)) hx hb hown (hts _ kw_32_) d_Big_figureAt_24 ?_
    refine nv_top (y := lN 10) (by decide) ?_
    refine nv_lrem hx hb d_Big_figureAt_27 (Nat.lt_of_le_of_lt (Nat.div_le_self _ _) (by have := dg_lt v (k / 9); omega)) (by decide) (by decide) ?_
    refine nv_l2i hx hb d_Big_figureAt_28 ?_
    exact er_i hx hb hr hlocks d_Big_figureAt_29 (show iZ (((((dg v (k / 9)) / (10 ^ (k % 9))) % 10 : Nat) : Int)) = iZ (((figAt v z : Nat) : Int)) from by rw [fig_limb]; unfold figAt; rw [if_neg (by omega), hk]; rfl)
  · refine lv_iconst (v := iZ (0)) hx hb d_Big_figureAt_4 rfl ?_
    exact er_i hx hb hr hlocks d_Big_figureAt_5 (show iZ (0) = iZ (((figAt v z : Nat) : Int)) from by unfold figAt; rw [if_pos (by omega)]; rfl)
