theorem kw_85_ : Cond.methodLink R_Sheet 1 objectInit ∈ gT := gT_in 30 (by decide +kernel) (by decide +kernel)
theorem kw_86_ : Cond.arrayClass .byte ∈ gT := gT_in 38 (by decide +kernel) (by decide +kernel)
theorem kw_87_ : Cond.fieldLink R_Sheet 9 "FloatWriter$Sheet" "bytes" "[B" ∈ gT := gT_in 31 (by decide +kernel) (by decide +kernel)
theorem kw_88_ : Cond.fieldLink R_Sheet 13 "FloatWriter$Sheet" "length" "I" ∈ gT := gT_in 32 (by decide +kernel) (by decide +kernel)
theorem kw_89_ : Cond.initialized R_Sheet ∈ gT := gT_in 2 (by decide +kernel) (by decide +kernel)
theorem kw_90_ : Cond.methodLink R_Sheet 26 y_Sheet_put ∈ gT := gT_in 333 (by decide +kernel) (by decide +kernel)
theorem kw_91_ : Cond.instanceMethod y_Sheet_put ∈ gT := gT_in 273 (by decide +kernel) (by decide +kernel)
theorem kw_92_ : Cond.selects R_Sheet y_Sheet_put y_Sheet_put ∈ gT := gT_in 274 (by decide +kernel) (by decide +kernel)
theorem kw_93_ : Cond.constantLong R_Sheet 42 (10) ∈ gT := gT_in 480 (by decide +kernel) (by decide +kernel)
theorem kw_94_ : Cond.methodLink R_Sheet 44 y_Sheet_putFigure ∈ gT := gT_in 481 (by decide +kernel) (by decide +kernel)
theorem kw_95_ : Cond.instanceMethod y_Sheet_putFigure ∈ gT := gT_in 465 (by decide +kernel) (by decide +kernel)
theorem kw_96_ : Cond.selects R_Sheet y_Sheet_putFigure y_Sheet_putFigure ∈ gT := gT_in 466 (by decide +kernel) (by decide +kernel)
theorem kw_97_ : Cond.methodLink R_Sheet 30 Lib.Math.abs.name ∈ gT := gT_in 476 (by decide +kernel) (by decide +kernel)
theorem kw_98_ : Cond.static Lib.Math.abs.name ∈ gT := gT_in 477 (by decide +kernel) (by decide +kernel)
set_option maxRecDepth 100000 in
theorem q_y_Sheet_put : Cond.code y_Sheet_put b_Sheet_put 2 none ∈ gT := gT_in 275 rfl rfl
set_option maxRecDepth 100000 in
theorem q_y_Sheet_putFigure : Cond.code y_Sheet_putFigure b_Sheet_putFigure 2 none ∈ gT := gT_in 467 rfl rfl
theorem q_Lib_Math_abs_name : Cond.code Lib.Math.abs.name Lib.Math.abs.code 1 (some .int) ∈ gT := gT_in 478 (by decide +kernel) rfl
theorem hd_y_Sheet_put : y_Sheet_put.cls ≠ "java/lang/invoke/MethodHandle" ∧ y_Sheet_put.cls ≠ "java/lang/invoke/VarHandle" ∧ (parseMethodDescriptor y_Sheet_put.desc).map (fun d => d.parameters.length) = some 1 := by decide +kernel
theorem hd_y_Sheet_putFigure : y_Sheet_putFigure.cls ≠ "java/lang/invoke/MethodHandle" ∧ y_Sheet_putFigure.cls ≠ "java/lang/invoke/VarHandle" ∧ (parseMethodDescriptor y_Sheet_putFigure.desc).map (fun d => d.parameters.length) = some 1 := by decide +kernel
theorem d_Sheet_init_0 : decode b_Sheet_init 0 = .ok (.aload_n 0, 1) := by decide +kernel
theorem d_Sheet_init_1 : decode b_Sheet_init 1 = .ok (.invokespecial 1, 3) := by decide +kernel
theorem d_Sheet_init_4 : decode b_Sheet_init 4 = .ok (.aload_n 0, 1) := by decide +kernel
theorem d_Sheet_init_5 : decode b_Sheet_init 5 = .ok (.sipush 1440, 3) := by decide +kernel
theorem d_Sheet_init_8 : decode b_Sheet_init 8 = .ok (.newarray .byte, 2) := by decide +kernel
theorem d_Sheet_init_10 : decode b_Sheet_init 10 = .ok (.putfield 9, 3) := by decide +kernel
theorem d_Sheet_init_13 : decode b_Sheet_init 13 = .ok (.aload_n 0, 1) := by decide +kernel
theorem d_Sheet_init_14 : decode b_Sheet_init 14 = .ok (.iconst 0, 1) := by decide +kernel
theorem d_Sheet_init_15 : decode b_Sheet_init 15 = .ok (.putfield 13, 3) := by decide +kernel
theorem d_Sheet_init_18 : decode b_Sheet_init 18 = .ok (.return_, 1) := by decide +kernel
theorem d_Sheet_clear_0 : decode b_Sheet_clear 0 = .ok (.aload_n 0, 1) := by decide +kernel
theorem d_Sheet_clear_1 : decode b_Sheet_clear 1 = .ok (.iconst 0, 1) := by decide +kernel
theorem d_Sheet_clear_2 : decode b_Sheet_clear 2 = .ok (.putfield 13, 3) := by decide +kernel
theorem d_Sheet_clear_5 : decode b_Sheet_clear 5 = .ok (.return_, 1) := by decide +kernel
theorem d_Sheet_length_0 : decode b_Sheet_length 0 = .ok (.aload_n 0, 1) := by decide +kernel
theorem d_Sheet_length_1 : decode b_Sheet_length 1 = .ok (.getfield 13, 3) := by decide +kernel
theorem d_Sheet_length_4 : decode b_Sheet_length 4 = .ok (.ireturn, 1) := by decide +kernel
theorem d_Sheet_put_0 : decode b_Sheet_put 0 = .ok (.aload_n 0, 1) := by decide +kernel
theorem d_Sheet_put_1 : decode b_Sheet_put 1 = .ok (.getfield 13, 3) := by decide +kernel
theorem d_Sheet_put_4 : decode b_Sheet_put 4 = .ok (.aload_n 0, 1) := by decide +kernel
theorem d_Sheet_put_5 : decode b_Sheet_put 5 = .ok (.getfield 9, 3) := by decide +kernel
theorem d_Sheet_put_8 : decode b_Sheet_put 8 = .ok (.arraylength, 1) := by decide +kernel
theorem d_Sheet_put_9 : decode b_Sheet_put 9 = .ok (.if_icmp .ge 24, 3) := by decide +kernel
theorem d_Sheet_put_12 : decode b_Sheet_put 12 = .ok (.aload_n 0, 1) := by decide +kernel
theorem d_Sheet_put_13 : decode b_Sheet_put 13 = .ok (.getfield 9, 3) := by decide +kernel
theorem d_Sheet_put_16 : decode b_Sheet_put 16 = .ok (.aload_n 0, 1) := by decide +kernel
theorem d_Sheet_put_17 : decode b_Sheet_put 17 = .ok (.getfield 13, 3) := by decide +kernel
theorem d_Sheet_put_20 : decode b_Sheet_put 20 = .ok (.iload_n 1, 1) := by decide +kernel
theorem d_Sheet_put_21 : decode b_Sheet_put 21 = .ok (.i2b, 1) := by decide +kernel
theorem d_Sheet_put_22 : decode b_Sheet_put 22 = .ok (.bastore, 1) := by decide +kernel
theorem d_Sheet_put_23 : decode b_Sheet_put 23 = .ok (.aload_n 0, 1) := by decide +kernel
theorem d_Sheet_put_24 : decode b_Sheet_put 24 = .ok (.dup, 1) := by decide +kernel
theorem d_Sheet_put_25 : decode b_Sheet_put 25 = .ok (.getfield 13, 3) := by decide +kernel
theorem d_Sheet_put_28 : decode b_Sheet_put 28 = .ok (.iconst 1, 1) := by decide +kernel
theorem d_Sheet_put_29 : decode b_Sheet_put 29 = .ok (.iadd, 1) := by decide +kernel
theorem d_Sheet_put_30 : decode b_Sheet_put 30 = .ok (.putfield 13, 3) := by decide +kernel
theorem d_Sheet_put_33 : decode b_Sheet_put 33 = .ok (.return_, 1) := by decide +kernel
theorem d_Sheet_putFigure_0 : decode b_Sheet_putFigure 0 = .ok (.aload_n 0, 1) := by decide +kernel
theorem d_Sheet_putFigure_1 : decode b_Sheet_putFigure 1 = .ok (.iload_n 1, 1) := by decide +kernel
theorem d_Sheet_putFigure_2 : decode b_Sheet_putFigure 2 = .ok (.bipush 10, 2) := by decide +kernel
theorem d_Sheet_putFigure_4 : decode b_Sheet_putFigure 4 = .ok (.if_icmp .ge 10, 3) := by decide +kernel
theorem d_Sheet_putFigure_7 : decode b_Sheet_putFigure 7 = .ok (.bipush 48, 2) := by decide +kernel
theorem d_Sheet_putFigure_9 : decode b_Sheet_putFigure 9 = .ok (.iload_n 1, 1) := by decide +kernel
theorem d_Sheet_putFigure_10 : decode b_Sheet_putFigure 10 = .ok (.iadd, 1) := by decide +kernel
theorem d_Sheet_putFigure_11 : decode b_Sheet_putFigure 11 = .ok (.goto 10, 3) := by decide +kernel
theorem d_Sheet_putFigure_14 : decode b_Sheet_putFigure 14 = .ok (.bipush 97, 2) := by decide +kernel
theorem d_Sheet_putFigure_16 : decode b_Sheet_putFigure 16 = .ok (.iload_n 1, 1) := by decide +kernel
theorem d_Sheet_putFigure_17 : decode b_Sheet_putFigure 17 = .ok (.iadd, 1) := by decide +kernel
theorem d_Sheet_putFigure_18 : decode b_Sheet_putFigure 18 = .ok (.bipush 10, 2) := by decide +kernel
theorem d_Sheet_putFigure_20 : decode b_Sheet_putFigure 20 = .ok (.isub, 1) := by decide +kernel
theorem d_Sheet_putFigure_21 : decode b_Sheet_putFigure 21 = .ok (.i2c, 1) := by decide +kernel
theorem d_Sheet_putFigure_22 : decode b_Sheet_putFigure 22 = .ok (.invokevirtual 26, 3) := by decide +kernel
theorem d_Sheet_putFigure_25 : decode b_Sheet_putFigure 25 = .ok (.return_, 1) := by decide +kernel
theorem d_Sheet_putNumber_0 : decode b_Sheet_putNumber 0 = .ok (.iload_n 1, 1) := by decide +kernel
theorem d_Sheet_putNumber_1 : decode b_Sheet_putNumber 1 = .ok (.ifCond .ge 9, 3) := by decide +kernel
theorem d_Sheet_putNumber_4 : decode b_Sheet_putNumber 4 = .ok (.aload_n 0, 1) := by decide +kernel
theorem d_Sheet_putNumber_5 : decode b_Sheet_putNumber 5 = .ok (.bipush 45, 2) := by decide +kernel
theorem d_Sheet_putNumber_7 : decode b_Sheet_putNumber 7 = .ok (.invokevirtual 26, 3) := by decide +kernel
theorem d_Sheet_putNumber_10 : decode b_Sheet_putNumber 10 = .ok (.iload_n 1, 1) := by decide +kernel
theorem d_Sheet_putNumber_11 : decode b_Sheet_putNumber 11 = .ok (.invokestatic 30, 3) := by decide +kernel
theorem d_Sheet_putNumber_14 : decode b_Sheet_putNumber 14 = .ok (.istore_n 2, 1) := by decide +kernel
theorem d_Sheet_putNumber_15 : decode b_Sheet_putNumber 15 = .ok (.iconst 3, 1) := by decide +kernel
theorem d_Sheet_putNumber_16 : decode b_Sheet_putNumber 16 = .ok (.istore_n 3, 1) := by decide +kernel
theorem d_Sheet_putNumber_17 : decode b_Sheet_putNumber 17 = .ok (.iload_n 3, 1) := by decide +kernel
theorem d_Sheet_putNumber_18 : decode b_Sheet_putNumber 18 = .ok (.ifCond .lt 40, 3) := by decide +kernel
theorem d_Sheet_putNumber_21 : decode b_Sheet_putNumber 21 = .ok (.iload_n 2, 1) := by decide +kernel
theorem d_Sheet_putNumber_22 : decode b_Sheet_putNumber 22 = .ok (.i2l, 1) := by decide +kernel
theorem d_Sheet_putNumber_23 : decode b_Sheet_putNumber 23 = .ok (.iload_n 3, 1) := by decide +kernel
theorem d_Sheet_putNumber_24 : decode b_Sheet_putNumber 24 = .ok (.invokestatic 36, 3) := by decide +kernel
theorem d_Sheet_putNumber_27 : decode b_Sheet_putNumber 27 = .ok (.ldiv, 1) := by decide +kernel
theorem d_Sheet_putNumber_28 : decode b_Sheet_putNumber 28 = .ok (.lstore 4, 2) := by decide +kernel
theorem d_Sheet_putNumber_30 : decode b_Sheet_putNumber 30 = .ok (.lload 4, 2) := by decide +kernel
theorem d_Sheet_putNumber_32 : decode b_Sheet_putNumber 32 = .ok (.lconst 0, 1) := by decide +kernel
theorem d_Sheet_putNumber_33 : decode b_Sheet_putNumber 33 = .ok (.lcmp, 1) := by decide +kernel
theorem d_Sheet_putNumber_34 : decode b_Sheet_putNumber 34 = .ok (.ifCond .gt 7, 3) := by decide +kernel
theorem d_Sheet_putNumber_37 : decode b_Sheet_putNumber 37 = .ok (.iload_n 3, 1) := by decide +kernel
theorem d_Sheet_putNumber_38 : decode b_Sheet_putNumber 38 = .ok (.ifCond .ne 14, 3) := by decide +kernel
theorem d_Sheet_putNumber_41 : decode b_Sheet_putNumber 41 = .ok (.aload_n 0, 1) := by decide +kernel
theorem d_Sheet_putNumber_42 : decode b_Sheet_putNumber 42 = .ok (.lload 4, 2) := by decide +kernel
theorem d_Sheet_putNumber_44 : decode b_Sheet_putNumber 44 = .ok (.ldc2_w 42, 3) := by decide +kernel
theorem d_Sheet_putNumber_47 : decode b_Sheet_putNumber 47 = .ok (.lrem, 1) := by decide +kernel
theorem d_Sheet_putNumber_48 : decode b_Sheet_putNumber 48 = .ok (.l2i, 1) := by decide +kernel
theorem d_Sheet_putNumber_49 : decode b_Sheet_putNumber 49 = .ok (.invokevirtual 44, 3) := by decide +kernel
theorem d_Sheet_putNumber_52 : decode b_Sheet_putNumber 52 = .ok (.iinc 3 (-1), 3) := by decide +kernel
theorem d_Sheet_putNumber_55 : decode b_Sheet_putNumber 55 = .ok (.goto (-38), 3) := by decide +kernel
theorem d_Sheet_putNumber_58 : decode b_Sheet_putNumber 58 = .ok (.return_, 1) := by decide +kernel
abbrev Qc_Sheet_init (D : va_G) (h0 : Nat) (z0 : Int) (A : Nat → Prop) : Array Value → State → Outcome → State → Prop := va_Qv (fun u : Nat × ClassId => True) (fun (u : Nat × ClassId) t9 => cpost D A [(h0, .inr (1, [.ref (u.1), .int (iZ (((([] : List Nat).length : Nat) : Int)))])), ((u.1), .inl ((u.2), 1440, .inl ((fun _ => 0))))] [((u.2), .byte)] t9) A
set_option maxHeartbeats 4000000 in
set_option maxRecDepth 100000 in
theorem c_Sheet_init (l : Launch) (D : va_G) (Z : Nat → Nat) (hz9 : Nat) (h0 : Nat) (z0 : Int)  : Met l y_Sheet_init (.code y_Sheet_init b_Sheet_init 1 none :: gT) ({ frames := 1, cells := 1, slots := 1440, locals := 12 } : Room) (va_Pc [.ref h0] (cpre D Z [(h0, .inr (1, [.null, .int (iZ (z0))]))] [] hz9)) (Qc_Sheet_init D h0 z0 (va_A [(h0, .inr (1, [.null, .int (iZ (z0))]))] hz9)) 1 1440 (va_A [(h0, .inr (1, [.null, .int (iZ (z0))]))] hz9) := by
  refine met_go (Qf := Qc_Sheet_init D h0 z0) (ff := fun A => A) (by decide) ?_
  intro p e s m below meth c A C0 hin hsz9 hA hE hK hP hD
  obtain ⟨hx, hb, hml, hown, hts, hr, hlocks⟩ := id C0
  have hS : va_S A s.heap s.heap [] := va_S.rf
  have hl := lv_entry [.ref h0] (n := 1) (Nat.le_of_ble_eq_true rfl)
  rw [lg_entry_eq]
  generalize (lg_sl [.ref h0] ++ List.replicate (1 - (lg_sl [.ref h0]).length) Slot.unset).toArray = ls at hl ⊢
  have hl : lv_has ls 1 [(0, .ref h0)] := hl
  refine lv_aload_n hx hb d_Sheet_init_0 rfl (lv_at hl 0 rfl) ?_
  refine W.objInit hx hb hown (hts _ kw_85_) (hts _ kw_20_) (hts _ q_objectInit) rfl (by rw [hml]; exact hl.1) rfl d_Sheet_init_1 (Nat.le_of_ble_eq_true rfl) (Nat.le_of_ble_eq_true rfl) ?_
  refine W.eq (g2 := F0 m 4 ls []) rfl ?_
  refine lv_aload_n hx hb d_Sheet_init_4 rfl (lv_at hl 0 rfl) ?_
  refine lv_sipush (v := iZ (1440)) hx hb d_Sheet_init_5 (by decide) ?_
  refine va_newa (atype := .byte) (N' := 1440) (a0 := (1440, .inl (fun _ => 0))) (ty := .byte) hx hb (hts _ kw_86_) rfl hK hP hD hS hA (fun _ => rfl) (by decide) (by decide) (by decide) (Nat.le_of_ble_eq_true rfl) (Nat.le_of_ble_eq_true rfl) d_Sheet_init_8 (fun q8 cA8 H hK hP hD hS => ?_)
  refine W.widen (k := 1) (n := 1440) (by decide) (by decide) ?_
  have hP : va_P D classes [(h0, .inr (1, [.null, .int (iZ (z0))])), (q8, .inl (cA8, 1440, .inl ((fun _ => 0))))] H := hP
  have hD : va_D A [(h0, .inr (1, [.null, .int (iZ (z0))])), (q8, .inl (cA8, 1440, .inl ((fun _ => 0))))] := hD
  have hK : va_K D classes [(cA8, .byte)] s := hK
  refine va_putF (D := D) (ci := 1) (v := .ref q8) (ty := .array .byte) (C := R_Sheet) (T := F_Sheet) (N := 2) hx hb hts i_Sheet t_Sheet t_Sheet_ok n_Sheet hown hK hP hD hS 0 rfl rfl 0 (by decide) (hts _ kw_87_) (fun _ h9 => h9) rfl hin rfl (by decide +kernel) rfl rfl (Nat.le_of_ble_eq_true rfl) d_Sheet_init_10 (fun H locs hP hD hS => ?_)
  have hP : va_P D classes [(h0, .inr (1, [.ref q8, .int (iZ (z0))])), (q8, .inl (cA8, 1440, .inl ((fun _ => 0))))] H := hP
  have hD : va_D A [(h0, .inr (1, [.ref q8, .int (iZ (z0))])), (q8, .inl (cA8, 1440, .inl ((fun _ => 0))))] := hD
  refine lv_aload_n hx hb d_Sheet_init_13 rfl (lv_at hl 0 rfl) ?_
  refine lv_iconst (v := iZ (0)) hx hb d_Sheet_init_14 rfl ?_
  refine zv_top (y := iZ (((([] : List Nat).length : Nat) : Int))) (rfl) ?_
  refine va_put (D := D) (ci := 1) (v := .int (iZ (((([] : List Nat).length : Nat) : Int)))) (ty := .int) (C := R_Sheet) (T := F_Sheet) (N := 2) hx hb hts i_Sheet t_Sheet t_Sheet_ok n_Sheet hown hK hP hD hS 0 rfl rfl 1 (by decide) (hts _ kw_88_) (fun _ h9 => h9) rfl (by decide +kernel) rfl rfl (Nat.le_of_ble_eq_true rfl) d_Sheet_init_15 (fun H locs hP hD hS => ?_)
  have hP : va_P D classes [(h0, .inr (1, [.ref q8, .int (iZ (((([] : List Nat).length : Nat) : Int)))])), (q8, .inl (cA8, 1440, .inl ((fun _ => 0))))] H := hP
  have hD : va_D A [(h0, .inr (1, [.ref q8, .int (iZ (((([] : List Nat).length : Nat) : Int)))])), (q8, .inl (cA8, 1440, .inl ((fun _ => 0))))] := hD
  exact ew_v (q8, cA8) hx hb hr hlocks d_Sheet_init_18 (trivial) (hP.sub (ws' := [(h0, .inr (1, [.ref q8, .int (iZ (((([] : List Nat).length : Nat) : Int)))])), (q8, .inl (cA8, 1440, .inl ((fun _ => 0))))]) [0, 1] rfl) (hD.sub (ws' := [(h0, .inr (1, [.ref q8, .int (iZ (((([] : List Nat).length : Nat) : Int)))])), (q8, .inl (cA8, 1440, .inl ((fun _ => 0))))]) [0, 1] (by decide) rfl) (hK.sub (tys' := [(cA8, .byte)]) [0] rfl) hS (Nat.le_of_ble_eq_true rfl) (Nat.le_of_ble_eq_true rfl)
abbrev Qc_Sheet_clear (D : va_G) (h0 : Nat) (qb : Nat) (cAb : ClassId) (g : Nat → Int32) (t : List Nat) (A : Nat → Prop) : Array Value → State → Outcome → State → Prop := va_Qv (fun u : Unit => True) (fun (u : Unit) t9 => cpost D A [(h0, .inr (1, [.ref qb, .int (iZ (((([] : List Nat).length : Nat) : Int)))])), (qb, .inl (cAb, 1440, .inl g))] [(cAb, .byte)] t9) A
set_option maxHeartbeats 4000000 in
set_option maxRecDepth 100000 in
theorem c_Sheet_clear (l : Launch) (D : va_G) (Z : Nat → Nat) (hz9 : Nat) (h0 : Nat) (qb : Nat) (cAb : ClassId) (g : Nat → Int32) (t : List Nat)  : Met l y_Sheet_clear (.code y_Sheet_clear b_Sheet_clear 1 none :: gT) ({ frames := 0, cells := 0, slots := 0, locals := 0 } : Room) (va_Pc [.ref h0] (cpre D Z [(h0, .inr (1, [.ref qb, .int (iZ ((((t).length : Nat) : Int)))])), (qb, .inl (cAb, 1440, .inl g))] [(cAb, .byte)] hz9)) (Qc_Sheet_clear D h0 qb cAb g t (va_A [(h0, .inr (1, [.ref qb, .int (iZ ((((t).length : Nat) : Int)))])), (qb, .inl (cAb, 1440, .inl g))] hz9)) 0 0 (va_A [(h0, .inr (1, [.ref qb, .int (iZ ((((t).length : Nat) : Int)))])), (qb, .inl (cAb, 1440, .inl g))] hz9) := by
  refine met_go (Qf := Qc_Sheet_clear D h0 qb cAb g t) (ff := fun A => A) (by decide) ?_
  intro p e s m below meth c A C0 hin hsz9 hA hE hK hP hD
  obtain ⟨hx, hb, hml, hown, hts, hr, hlocks⟩ := id C0
  have hS : va_S A s.heap s.heap [] := va_S.rf
  have hl := lv_entry [.ref h0] (n := 1) (Nat.le_of_ble_eq_true rfl)
  rw [lg_entry_eq]
  generalize (lg_sl [.ref h0] ++ List.replicate (1 - (lg_sl [.ref h0]).length) Slot.unset).toArray = ls at hl ⊢
  have hl : lv_has ls 1 [(0, .ref h0)] := hl
  refine lv_aload_n hx hb d_Sheet_clear_0 rfl (lv_at hl 0 rfl) ?_
  refine lv_iconst (v := iZ (0)) hx hb d_Sheet_clear_1 rfl ?_
  refine zv_top (y := iZ (((([] : List Nat).length : Nat) : Int))) (rfl) ?_
  refine va_put (D := D) (ci := 1) (v := .int (iZ (((([] : List Nat).length : Nat) : Int)))) (ty := .int) (C := R_Sheet) (T := F_Sheet) (N := 2) hx hb hts i_Sheet t_Sheet t_Sheet_ok n_Sheet hown hK hP hD hS 0 rfl rfl 1 (by decide) (hts _ kw_88_) (fun _ h9 => h9) rfl (by decide +kernel) rfl rfl (Nat.le_of_ble_eq_true rfl) d_Sheet_clear_2 (fun H locs hP hD hS => ?_)
  have hP : va_P D classes [(h0, .inr (1, [.ref qb, .int (iZ (((([] : List Nat).length : Nat) : Int)))])), (qb, .inl (cAb, 1440, .inl g))] H := hP
  have hD : va_D A [(h0, .inr (1, [.ref qb, .int (iZ (((([] : List Nat).length : Nat) : Int)))])), (qb, .inl (cAb, 1440, .inl g))] := hD
  exact ew_v () hx hb hr hlocks d_Sheet_clear_5 (trivial) (hP.sub (ws' := [(h0, .inr (1, [.ref qb, .int (iZ (((([] : List Nat).length : Nat) : Int)))])), (qb, .inl (cAb, 1440, .inl g))]) [0, 1] rfl) (hD.sub (ws' := [(h0, .inr (1, [.ref qb, .int (iZ (((([] : List Nat).length : Nat) : Int)))])), (qb, .inl (cAb, 1440, .inl g))]) [0, 1] (by decide) rfl) (hK.sub (tys' := [(cAb, .byte)]) [0] rfl) hS (Nat.le_of_ble_eq_true rfl) (Nat.le_of_ble_eq_true rfl)
abbrev Qc_Sheet_length (D : va_G) (h0 : Nat) (qb : Nat) (cAb : ClassId) (g : Nat → Int32) (t : List Nat) (A : Nat → Prop) : Array Value → State → Outcome → State → Prop := vp_Si (fun r : Int32 => r = iZ ((((t).length : Nat) : Int)))
set_option maxHeartbeats 4000000 in
set_option maxRecDepth 100000 in
theorem c_Sheet_length (l : Launch) (D : va_G) (Z : Nat → Nat) (hz9 : Nat) (h0 : Nat) (qb : Nat) (cAb : ClassId) (g : Nat → Int32) (t : List Nat)  : Met l y_Sheet_length (.code y_Sheet_length b_Sheet_length 1 (some .int) :: gT) ({ frames := 0, cells := 0, slots := 0, locals := 0 } : Room) (va_Pc [.ref h0] (cpre D Z [(h0, .inr (1, [.ref qb, .int (iZ ((((t).length : Nat) : Int)))])), (qb, .inl (cAb, 1440, .inl g))] [(cAb, .byte)] hz9)) (Qc_Sheet_length D h0 qb cAb g t (va_A [(h0, .inr (1, [.ref qb, .int (iZ ((((t).length : Nat) : Int)))])), (qb, .inl (cAb, 1440, .inl g))] hz9)) 0 0 (fun _ => False) := by
  refine met_go (Qf := Qc_Sheet_length D h0 qb cAb g t) (ff := fun _ _ => False) (by decide) ?_
  intro p e s m below meth c A C0 hin hsz9 hA hE hK hP hD
  obtain ⟨hx, hb, hml, hown, hts, hr, hlocks⟩ := id C0
  have hS : va_S A s.heap s.heap [] := va_S.rf
  have hl := lv_entry [.ref h0] (n := 1) (Nat.le_of_ble_eq_true rfl)
  rw [lg_entry_eq]
  generalize (lg_sl [.ref h0] ++ List.replicate (1 - (lg_sl [.ref h0]).length) Slot.unset).toArray = ls at hl ⊢
  have hl : lv_has ls 1 [(0, .ref h0)] := hl
  refine lv_aload_n hx hb d_Sheet_length_0 rfl (lv_at hl 0 rfl) ?_
  refine va_get (D := D) (ci := 1) (v := .int (iZ ((((t).length : Nat) : Int)))) (C := R_Sheet) (T := F_Sheet) (N := 2) hx hb hts i_Sheet hown hK hP 0 rfl rfl 1 (by decide) (hts _ kw_88_) (fun _ h9 => h9) rfl d_Sheet_length_1 ?_
  exact er_i hx hb hr hlocks d_Sheet_length_4 (show iZ ((((t).length : Nat) : Int)) = iZ ((((t).length : Nat) : Int)) from rfl)
abbrev Qc_Sheet_put (D : va_G) (h0 : Nat) (qb : Nat) (cAb : ClassId) (g : Nat → Int32) (t : List Nat) (x : Nat) (A : Nat → Prop) : Array Value → State → Outcome → State → Prop := va_Qv (fun u : Nat → Int32 => PaperIs u (t ++ [x])) (fun (u : Nat → Int32) t9 => cpost D A [(h0, .inr (1, [.ref qb, .int (iZ ((((t ++ [x]).length : Nat) : Int)))])), (qb, .inl (cAb, 1440, .inl u))] [(cAb, .byte)] t9) A
set_option maxHeartbeats 4000000 in
set_option maxRecDepth 100000 in
theorem c_Sheet_put (l : Launch) (D : va_G) (Z : Nat → Nat) (hz9 : Nat) (h0 : Nat) (qb : Nat) (cAb : ClassId) (g : Nat → Int32) (t : List Nat) (x : Nat) (hT : PaperIs g t) (hx8 : x < 128) (hl8 : t.length < 1440) : Met l y_Sheet_put (.code y_Sheet_put b_Sheet_put 2 none :: gT) ({ frames := 0, cells := 0, slots := 0, locals := 0 } : Room) (va_Pc [.ref h0, .int (iZ (((x : Nat) : Int)))] (cpre D Z [(h0, .inr (1, [.ref qb, .int (iZ ((((t).length : Nat) : Int)))])), (qb, .inl (cAb, 1440, .inl g))] [(cAb, .byte)] hz9)) (Qc_Sheet_put D h0 qb cAb g t x (va_A [(h0, .inr (1, [.ref qb, .int (iZ ((((t).length : Nat) : Int)))])), (qb, .inl (cAb, 1440, .inl g))] hz9)) 0 0 (va_A [(h0, .inr (1, [.ref qb, .int (iZ ((((t).length : Nat) : Int)))])), (qb, .inl (cAb, 1440, .inl g))] hz9) := by
  refine met_go (Qf := Qc_Sheet_put D h0 qb cAb g t x) (ff := fun A => A) (by decide) ?_
  intro p e s m below meth c A C0 hin hsz9 hA hE hK hP hD
  obtain ⟨hx, hb, hml, hown, hts, hr, hlocks⟩ := id C0
  have hS : va_S A s.heap s.heap [] := va_S.rf
  have hl := lv_entry [.ref h0, .int (iZ (((x : Nat) : Int)))] (n := 2) (Nat.le_of_ble_eq_true rfl)
  rw [lg_entry_eq]
  generalize (lg_sl [.ref h0, .int (iZ (((x : Nat) : Int)))] ++ List.replicate (2 - (lg_sl [.ref h0, .int (iZ (((x : Nat) : Int)))]).length) Slot.unset).toArray = ls at hl ⊢
  have hl : lv_has ls 2 [(0, .ref h0), (1, .int (iZ (((x : Nat) : Int))))] := hl
  refine lv_aload_n hx hb d_Sheet_put_0 rfl (lv_at hl 0 rfl) ?_
  refine va_get (D := D) (ci := 1) (v := .int (iZ ((((t).length : Nat) : Int)))) (C := R_Sheet) (T := F_Sheet) (N := 2) hx hb hts i_Sheet hown hK hP 0 rfl rfl 1 (by decide) (hts _ kw_88_) (fun _ h9 => h9) rfl d_Sheet_put_1 ?_
  refine lv_aload_n hx hb d_Sheet_put_4 rfl (lv_at hl 0 rfl) ?_
  refine va_get (D := D) (ci := 1) (v := .ref qb) (C := R_Sheet) (T := F_Sheet) (N := 2) hx hb hts i_Sheet hown hK hP 0 rfl rfl 0 (by decide) (hts _ kw_87_) (fun _ h9 => h9) rfl d_Sheet_put_5 ?_
  refine zv_alen hx hb hK hP 1 0 rfl rfl d_Sheet_put_8 ?_
  refine zv_icmp_ge (tgt := 33) hx hb d_Sheet_put_9 (by decide) (by omega) (by omega) (fun c9 => absurd c9 (by omega)) (fun c9 => ?_)
  refine lv_aload_n hx hb d_Sheet_put_12 rfl (lv_at hl 0 rfl) ?_
  refine va_get (D := D) (ci := 1) (v := .ref qb) (C := R_Sheet) (T := F_Sheet) (N := 2) hx hb hts i_Sheet hown hK hP 0 rfl rfl 0 (by decide) (hts _ kw_87_) (fun _ h9 => h9) rfl d_Sheet_put_13 ?_
  refine lv_aload_n hx hb d_Sheet_put_16 rfl (lv_at hl 0 rfl) ?_
  refine va_get (D := D) (ci := 1) (v := .int (iZ ((((t).length : Nat) : Int)))) (C := R_Sheet) (T := F_Sheet) (N := 2) hx hb hts i_Sheet hown hK hP 0 rfl rfl 1 (by decide) (hts _ kw_88_) (fun _ h9 => h9) rfl d_Sheet_put_17 ?_
  refine lv_iload_n hx hb d_Sheet_put_20 rfl (lv_at hl 1 rfl) ?_
  refine lv_i2b (v := (iZ (((x : Nat) : Int)))) hx hb d_Sheet_put_21 (byte_ok x hx8) ?_
  refine zv_bast hx hb hK hP hD hS 1 0 rfl rfl ((t).length) (by omega) (by omega) (by decide) d_Sheet_put_22 (fun H locs hP hD hS => ?_)
  have hP : va_P D classes [(h0, .inr (1, [.ref qb, .int (iZ ((((t).length : Nat) : Int)))])), (qb, .inl (cAb, 1440, .inl (upd g ((t).length) (vp_nar .byte (iZ (((x : Nat) : Int)))))))] H := hP
  have hD : va_D A [(h0, .inr (1, [.ref qb, .int (iZ ((((t).length : Nat) : Int)))])), (qb, .inl (cAb, 1440, .inl (upd g ((t).length) (vp_nar .byte (iZ (((x : Nat) : Int)))))))] := hD
  refine lv_aload_n hx hb d_Sheet_put_23 rfl (lv_at hl 0 rfl) ?_
  refine lv_dup hx hb d_Sheet_put_24 rfl ?_
  refine va_get (D := D) (ci := 1) (v := .int (iZ ((((t).length : Nat) : Int)))) (C := R_Sheet) (T := F_Sheet) (N := 2) hx hb hts i_Sheet hown hK hP 0 rfl rfl 1 (by decide) (hts _ kw_88_) (fun _ h9 => h9) rfl d_Sheet_put_25 ?_
  refine lv_iconst (v := iZ (1)) hx hb d_Sheet_put_28 rfl ?_
  refine zv_iadd hx hb d_Sheet_put_29 ?_
  refine zv_top (y := iZ ((((t ++ [x]).length : Nat) : Int))) (congrArg iZ (by rw [List.length_append]; rfl)) ?_
  refine va_put (D := D) (ci := 1) (v := .int (iZ ((((t ++ [x]).length : Nat) : Int)))) (ty := .int) (C := R_Sheet) (T := F_Sheet) (N := 2) hx hb hts i_Sheet t_Sheet t_Sheet_ok n_Sheet hown hK hP hD hS 0 rfl rfl 1 (by decide) (hts _ kw_88_) (fun _ h9 => h9) rfl (by decide +kernel) rfl rfl (Nat.le_of_ble_eq_true rfl) d_Sheet_put_30 (fun H locs hP hD hS => ?_)
  have hP : va_P D classes [(h0, .inr (1, [.ref qb, .int (iZ ((((t ++ [x]).length : Nat) : Int)))])), (qb, .inl (cAb, 1440, .inl (upd g ((t).length) (vp_nar .byte (iZ (((x : Nat) : Int)))))))] H := hP
  have hD : va_D A [(h0, .inr (1, [.ref qb, .int (iZ ((((t ++ [x]).length : Nat) : Int)))])), (qb, .inl (cAb, 1440, .inl (upd g ((t).length) (vp_nar .byte (iZ (((x : Nat) : Int)))))))] := hD
  exact ew_v (upd g ((t).length) (vp_nar .byte (iZ (((x : Nat) : Int))))) hx hb hr hlocks d_Sheet_put_33 (show PaperIs (upd g ((t).length) (vp_nar .byte (iZ (((x : Nat) : Int))))) (t ++ [x]) from paper_put hT hl8 hx8) (hP.sub (ws' := [(h0, .inr (1, [.ref qb, .int (iZ ((((t ++ [x]).length : Nat) : Int)))])), (qb, .inl (cAb, 1440, .inl ((upd g ((t).length) (vp_nar .byte (iZ (((x : Nat) : Int))))))))]) [0, 1] rfl) (hD.sub (ws' := [(h0, .inr (1, [.ref qb, .int (iZ ((((t ++ [x]).length : Nat) : Int)))])), (qb, .inl (cAb, 1440, .inl ((upd g ((t).length) (vp_nar .byte (iZ (((x : Nat) : Int))))))))]) [0, 1] (by decide) rfl) (hK.sub (tys' := [(cAb, .byte)]) [0] rfl) hS (Nat.le_of_ble_eq_true rfl) (Nat.le_of_ble_eq_true rfl)
abbrev Qc_Sheet_putFigure (D : va_G) (h0 : Nat) (qb : Nat) (cAb : ClassId) (g : Nat → Int32) (t : List Nat) (dd : Nat) (A : Nat → Prop) : Array Value → State → Outcome → State → Prop := va_Qv (fun u : Nat → Int32 => PaperIs u (t ++ [chr dd])) (fun (u : Nat → Int32) t9 => cpost D A [(h0, .inr (1, [.ref qb, .int (iZ ((((t ++ [chr dd]).length : Nat) : Int)))])), (qb, .inl (cAb, 1440, .inl u))] [(cAb, .byte)] t9) A
set_option maxHeartbeats 4000000 in
set_option maxRecDepth 100000 in
theorem c_Sheet_putFigure (l : Launch) (D : va_G) (Z : Nat → Nat) (hz9 : Nat) (h0 : Nat) (qb : Nat) (cAb : ClassId) (g : Nat → Int32) (t : List Nat) (dd : Nat) (hT : PaperIs g t) (hd16 : dd < 16) (hl8 : t.length < 1440) : Met l y_Sheet_putFigure (.code y_Sheet_putFigure b_Sheet_putFigure 2 none :: gT) ({ frames := 1, cells := 0, slots := 0, locals := 21 } : Room) (va_Pc [.ref h0, .int (iZ (((dd : Nat) : Int)))] (cpre D Z [(h0, .inr (1, [.ref qb, .int (iZ ((((t).length : Nat) : Int)))])), (qb, .inl (cAb, 1440, .inl g))] [(cAb, .byte)] hz9)) (Qc_Sheet_putFigure D h0 qb cAb g t dd (va_A [(h0, .inr (1, [.ref qb, .int (iZ ((((t).length : Nat) : Int)))])), (qb, .inl (cAb, 1440, .inl g))] hz9)) 0 0 (va_A [(h0, .inr (1, [.ref qb, .int (iZ ((((t).length : Nat) : Int)))])), (qb, .inl (cAb, 1440, .inl g))] hz9) := by
  refine met_go (Qf := Qc_Sheet_putFigure D h0 qb cAb g t dd) (ff := fun A => A) (by decide) ?_
  intro p e s m below meth c A C0 hin hsz9 hA hE hK hP hD
  obtain ⟨hx, hb, hml, hown, hts, hr, hlocks⟩ := id C0
  have hS : va_S A s.heap s.heap [] := va_S.rf
  have hl := lv_entry [.ref h0, .int (iZ (((dd : Nat) : Int)))] (n := 2) (Nat.le_of_ble_eq_true rfl)
  rw [lg_entry_eq]
  generalize (lg_sl [.ref h0, .int (iZ (((dd : Nat) : Int)))] ++ List.replicate (2 - (lg_sl [.ref h0, .int (iZ (((dd : Nat) : Int)))]).length) Slot.unset).toArray = ls at hl ⊢
  have hl : lv_has ls 2 [(0, .ref h0), (1, .int (iZ (((dd : Nat) : Int))))] := hl
  refine lv_aload_n hx hb d_Sheet_putFigure_0 rfl (lv_at hl 0 rfl) ?_
  refine lv_iload_n hx hb d_Sheet_putFigure_1 rfl (lv_at hl 1 rfl) ?_
  refine lv_bipush (v := iZ (10)) hx hb d_Sheet_putFigure_2 (by decide) ?_
  refine zv_icmp_ge (tgt := 14) hx hb d_Sheet_putFigure_4 (by decide) (by omega) (by omega) (fun c4 => ?_) (fun c4 => ?_)
  · refine lv_bipush (v := iZ (97)) hx hb d_Sheet_putFigure_14 (by decide) ?_
    refine lv_iload_n hx hb d_Sheet_putFigure_16 rfl (lv_at hl 1 rfl) ?_
    refine zv_iadd hx hb d_Sheet_putFigure_17 ?_
    refine zv_top (y := iZ (((97 + dd : Nat) : Int))) (congrArg iZ (by omega)) ?_
    refine lv_bipush (v := iZ (10)) hx hb d_Sheet_putFigure_18 (by decide) ?_
    refine zv_isub hx hb d_Sheet_putFigure_20 ?_
    refine zv_top (y := iZ (((chr dd : Nat) : Int))) (congrArg iZ (by unfold chr; rw [if_neg (by omega)]; omega)) ?_
    refine lv_i2c (v := (iZ (((chr dd : Nat) : Int)))) hx hb d_Sheet_putFigure_21 (char_ok _ (chr_lt hd16)) ?_
    refine kw_v (wr := []) (tr := []) (kr_V (C0 := R_Sheet) (ci := 1) (i0 := 0) (As := [.int (iZ (((chr dd : Nat) : Int)))]) (rest := []) C0 (c_Sheet_put l D Z _ h0 qb cAb g t (chr dd) (by assumption) (chr_lt hd16) (hl8)) q_y_Sheet_put kw_90_ kw_91_ kw_92_ kw_89_ hd_y_Sheet_put rfl rfl ⟨Nat.le_of_ble_eq_true rfl, Nat.le_of_ble_eq_true rfl⟩ (hP.sub (ws' := [(h0, .inr (1, [.ref qb, .int (iZ ((((t).length : Nat) : Int)))])), (qb, .inl (cAb, 1440, .inl g))]) [0, 1] rfl) (hD.sub (ws' := [(h0, .inr (1, [.ref qb, .int (iZ ((((t).length : Nat) : Int)))])), (qb, .inl (cAb, 1440, .inl g))]) [0, 1] (by decide) rfl) (hK.sub (tys' := [(cAb, .byte)]) [0] rfl) hE hS (va_free (wc := [(h0, .inr (1, [.ref qb, .int (iZ ((((t).length : Nat) : Int)))])), (qb, .inl (cAb, 1440, .inl g))]) hD hS hA [0, 1] rfl) rfl rfl rfl hl.1 rfl (Nat.le_of_ble_eq_true rfl) d_Sheet_putFigure_22 ⟨Nat.le_of_ble_eq_true rfl, Nat.le_of_ble_eq_true rfl⟩) hP hD hK hS hA [0, 1] [] [] rfl rfl (by decide) (by decide) rfl (fun g1 H locs hpost hP hD hK hS => ?_)
    have hw22 : PaperIs g1 (t ++ [(chr dd)]) := hpost
    have hP : va_P D classes [(h0, .inr (1, [.ref qb, .int (iZ ((((t ++ [(chr dd)]).length : Nat) : Int)))])), (qb, .inl (cAb, 1440, .inl g1))] H := hP
    have hD : va_D A [(h0, .inr (1, [.ref qb, .int (iZ ((((t ++ [(chr dd)]).length : Nat) : Int)))])), (qb, .inl (cAb, 1440, .inl g1))] := hD
    have hK : va_K D classes [(cAb, .byte)] s := hK
    exact ew_v g1 hx hb hr hlocks d_Sheet_putFigure_25 (show PaperIs g1 (t ++ [chr dd]) from hw22) (hP.sub (ws' := [(h0, .inr (1, [.ref qb, .int (iZ ((((t ++ [chr dd]).length : Nat) : Int)))])), (qb, .inl (cAb, 1440, .inl g1))]) [0, 1] rfl) (hD.sub (ws' := [(h0, .inr (1, [.ref qb, .int (iZ ((((t ++ [chr dd]).length : Nat) : Int)))])), (qb, .inl (cAb, 1440, .inl g1))]) [0, 1] (by decide) rfl) (hK.sub (tys' := [(cAb, .byte)]) [0] rfl) hS (Nat.le_of_ble_eq_true rfl) (Nat.le_of_ble_eq_true rfl)
  · refine lv_bipush (v := iZ (48)) hx hb d_Sheet_putFigure_7 (by decide) ?_
    refine lv_iload_n hx hb d_Sheet_putFigure_9 rfl (lv_at hl 1 rfl) ?_
    refine zv_iadd hx hb d_Sheet_putFigure_10 ?_
    refine zv_top (y := iZ (((chr dd : Nat) : Int))) (congrArg iZ (by unfold chr; rw [if_pos (by omega)]; omega)) ?_
    refine lv_goto (tgt := 21) hx hb d_Sheet_putFigure_11 (by decide) ?_
    refine lv_i2c (v := (iZ (((chr dd : Nat) : Int)))) hx hb d_Sheet_putFigure_21 (char_ok _ (chr_lt hd16)) ?_
    refine kw_v (wr := []) (tr := []) (kr_V (C0 := R_Sheet) (ci := 1) (i0 := 0) (As := [.int (iZ (((chr dd : Nat) : Int)))]) (rest := []) C0 (c_Sheet_put l D Z _ h0 qb cAb g t (chr dd) (by assumption) (chr_lt hd16) (hl8)) q_y_Sheet_put kw_90_ kw_91_ kw_92_ kw_89_ hd_y_Sheet_put rfl rfl ⟨Nat.le_of_ble_eq_true rfl, Nat.le_of_ble_eq_true rfl⟩ (hP.sub (ws' := [(h0, .inr (1, [.ref qb, .int (iZ ((((t).length : Nat) : Int)))])), (qb, .inl (cAb, 1440, .inl g))]) [0, 1] rfl) (hD.sub (ws' := [(h0, .inr (1, [.ref qb, .int (iZ ((((t).length : Nat) : Int)))])), (qb, .inl (cAb, 1440, .inl g))]) [0, 1] (by decide) rfl) (hK.sub (tys' := [(cAb, .byte)]) [0] rfl) hE hS (va_free (wc := [(h0, .inr (1, [.ref qb, .int (iZ ((((t).length : Nat) : Int)))])), (qb, .inl (cAb, 1440, .inl g))]) hD hS hA [0, 1] rfl) rfl rfl rfl hl.1 rfl (Nat.le_of_ble_eq_true rfl) d_Sheet_putFigure_22 ⟨Nat.le_of_ble_eq_true rfl, Nat.le_of_ble_eq_true rfl⟩) hP hD hK hS hA [0, 1] [] [] rfl rfl (by decide) (by decide) rfl (fun g1 H locs hpost hP hD hK hS => ?_)
    have hw22 : PaperIs g1 (t ++ [(chr dd)]) := hpost
    have hP : va_P D classes [(h0, .inr (1, [.ref qb, .int (iZ ((((t ++ [(chr dd)]).length : Nat) : Int)))])), (qb, .inl (cAb, 1440, .inl g1))] H := hP
    have hD : va_D A [(h0, .inr (1, [.ref qb, .int (iZ ((((t ++ [(chr dd)]).length : Nat) : Int)))])), (qb, .inl (cAb, 1440, .inl g1))] := hD
    have hK : va_K D classes [(cAb, .byte)] s := hK
    exact ew_v g1 hx hb hr hlocks d_Sheet_putFigure_25 (show PaperIs g1 (t ++ [chr dd]) from hw22) (hP.sub (ws' := [(h0, .inr (1, [.ref qb, .int (iZ ((((t ++ [chr dd]).length : Nat) : Int)))])), (qb, .inl (cAb, 1440, .inl g1))]) [0, 1] rfl) (hD.sub (ws' := [(h0, .inr (1, [.ref qb, .int (iZ ((((t ++ [chr dd]).length : Nat) : Int)))])), (qb, .inl (cAb, 1440, .inl g1))]) [0, 1] (by decide) rfl) (hK.sub (tys' := [(cAb, .byte)]) [0] rfl) hS (Nat.le_of_ble_eq_true rfl) (Nat.le_of_ble_eq_true rfl)
abbrev Qc_Sheet_putNumber (D : va_G) (h0 : Nat) (qb : Nat) (cAb : ClassId) (g : Nat → Int32) (t : List Nat) (z : Int) (A : Nat → Prop) : Array Value → State → Outcome → State → Prop := va_Qv (fun u : Nat → Int32 => PaperIs u (t ++ numT z)) (fun (u : Nat → Int32) t9 => cpost D A [(h0, .inr (1, [.ref qb, .int (iZ ((((t ++ numT z).length : Nat) : Int)))])), (qb, .inl (cAb, 1440, .inl u))] [(cAb, .byte)] t9) A
set_option maxHeartbeats 4000000 in
set_option maxRecDepth 100000 in
theorem lp_Sheet_putNumber_17 {p : Program} {l : Launch} {e : Env} {s : State} {m : MethodId} {args : Array Value} {below : List Frame} {meth : Method} {c : Code} {A : Nat → Prop} {D : va_G} {Z : Nat → Nat} (h0 : Nat) (qb : Nat) (cAb : ClassId) (g : Nat → Int32) (t : List Nat) (z : Int) (hT : PaperIs g t) (hz : -10000 < z ∧ z < 10000) (hl5 : t.length + 5 ≤ 1440) (C0 : cxA p s m args meth c b_Sheet_putNumber 6 R_Sheet none) (hA : ∀ q : Nat, s.heap.size ≤ q → A q) (hE : Ev Z A s s.heap) : ∀ (N : Nat) (j : Nat) (g2 : Nat → Int32) (H : Heap) (locs : List Loc) (ls : Array Slot), 4 - j < N → (j ≤ 4) → (PaperIs g2 (t ++ (if z < 0 then [45] else []) ++ numQ z.natAbs j)) → va_K D classes [(cAb, .byte)] s → va_P D classes [(h0, .inr (1, [.ref qb, .int (iZ ((((t ++ (if z < 0 then [45] else []) ++ numQ z.natAbs j).length : Nat) : Int)))])), (qb, .inl (cAb, 1440, .inl g2))] H → va_D A [(h0, .inr (1, [.ref qb, .int (iZ ((((t ++ (if z < 0 then [45] else []) ++ numQ z.natAbs j).length : Nat) : Int)))])), (qb, .inl (cAb, 1440, .inl g2))] → va_S A s.heap H locs → lv_has ls 6 [(0, .ref h0), (2, .int (iZ (((z.natAbs : Nat) : Int)))), (3, .int (iZ (3 - ((j : Nat) : Int))))] → W p l e ({ frames := 2, cells := 0, slots := 0, locals := 42 } : Room) s m args below meth c H locs 0 0 (MQ below (Qc_Sheet_putNumber D h0 qb cAb g t z A) args s 0 0 A) (F0 m 17 ls []) := by
  obtain ⟨hx, hb, hml, hown, hts, hr, hlocks⟩ := id C0
  intro N
  induction N with
  | zero => intro j g2 H locs ls hN; exact absurd hN (Nat.not_lt_zero _)
  | succ N ih =>
    intro j g2 H locs ls hN hj hg hK hP hD hS hl
    have hln := numQ_len z.natAbs
    refine lv_iload_n hx hb d_Sheet_putNumber_17 rfl (lv_at hl 2 rfl) ?_
    refine zv_if_lt (tgt := 58) hx hb d_Sheet_putNumber_18 (by decide) (by omega) (fun c18 => ?_) (fun c18 => ?_)
    · have e4 : j = 4 := by omega
      have hTx : t ++ numT z = t ++ (if z < 0 then [45] else []) ++ numQ z.natAbs j := by rw [e4]; unfold numT; rw [List.append_assoc]
      have hP : va_P D classes [(h0, .inr (1, [.ref qb, .int (iZ ((((t ++ numT z).length : Nat) : Int)))])), (qb, .inl (cAb, 1440, .inl g2))] H := by rw [hTx]; exact hP
      have hD : va_D A [(h0, .inr (1, [.ref qb, .int (iZ ((((t ++ numT z).length : Nat) : Int)))])), (qb, .inl (cAb, 1440, .inl g2))] := by rw [hTx]; exact hD
      exact ew_v g2 hx hb hr hlocks d_Sheet_putNumber_58 (show PaperIs g2 (t ++ numT z) from by rw [hTx]; exact hg) (hP.sub (ws' := [(h0, .inr (1, [.ref qb, .int (iZ ((((t ++ numT z).length : Nat) : Int)))])), (qb, .inl (cAb, 1440, .inl g2))]) [0, 1] rfl) (hD.sub (ws' := [(h0, .inr (1, [.ref qb, .int (iZ ((((t ++ numT z).length : Nat) : Int)))])), (qb, .inl (cAb, 1440, .inl g2))]) [0, 1] (by decide) rfl) (hK.sub (tys' := [(cAb, .byte)]) [0] rfl) hS (Nat.le_of_ble_eq_true rfl) (Nat.le_of_ble_eq_true rfl)
    · refine lv_iload_n hx hb d_Sheet_putNumber_21 rfl (lv_at hl 1 rfl) ?_
      refine nv_i2l (n := z.natAbs) hx hb d_Sheet_putNumber_22 (by omega) (by omega) ?_
      refine lv_iload_n hx hb d_Sheet_putNumber_23 rfl (lv_at hl 2 rfl) ?_
      refine zv_top (y := iZ (((3 - j : Nat) : Int))) (congrArg iZ (by omega)) ?_
      refine kg_l (kr_SN (host := R_FW) (As := [.int (iZ (((3 - j : Nat) : Int)))]) (rest := [.long (lN (z.natAbs))]) C0 (c_FW_tenTo l D Z _ (3 - j) (by omega)) q_y_FW_tenTo (hE.nw 6 rfl) kw_31_ kw_3_ hd_y_FW_tenTo rfl rfl ⟨Nat.le_of_ble_eq_true rfl, Nat.le_of_ble_eq_true rfl⟩ (hP.sub (ws' := []) [] rfl) (hD.sub (ws' := []) [] (by decide) rfl) (hK.sub (tys' := []) [] rfl) hE hS (va_free (wc := []) hD hS hA [] rfl) rfl hl.1 rfl (Nat.le_of_ble_eq_true rfl) d_Sheet_putNumber_24 ⟨Nat.le_of_ble_eq_true rfl, Nat.le_of_ble_eq_true rfl⟩) (fun r hr1 => ?_)
      obtain rfl : r = lN (10 ^ (3 - j)) := hr1
      refine nv_ldiv hx hb d_Sheet_putNumber_27 (by omega) (Nat.pow_pos (by decide)) (ten_63 (by omega)) ?_
      refine lv_lstore (lv' := [(4, .long (lN (z.natAbs / (10 ^ (3 - j))))), (0, .ref h0), (2, .int (iZ (((z.natAbs : Nat) : Int)))), (3, .int (iZ (3 - ((j : Nat) : Int))))]) hx hb d_Sheet_putNumber_28 hl (by decide) rfl (fun ls hl => ?_)
      refine lv_lload hx hb d_Sheet_putNumber_30 (lv_at hl 0 rfl) ?_
      refine lv_lconst (v := lN 0) hx hb d_Sheet_putNumber_32 rfl ?_
      refine nv_lcmp_gt (tgt := 41) hx hb d_Sheet_putNumber_33 d_Sheet_putNumber_34 (by decide) (Nat.lt_of_le_of_lt (Nat.div_le_self _ _) (by omega)) (by decide) (fun c33 => ?_) (fun c33 => ?_)
      · have e5 : numQ z.natAbs (j + 1) = numQ z.natAbs j ++ [chr (z.natAbs / 10 ^ (3 - j) % 10)] := numQ_t (Or.inl (by omega))
        refine lv_aload_n hx hb d_Sheet_putNumber_41 rfl (lv_at hl 1 rfl) ?_
        refine lv_lload hx hb d_Sheet_putNumber_42 (lv_at hl 0 rfl) ?_
        refine lv_ldc2 (v := (10)) hx hb hown (hts _ kw_93_) d_Sheet_putNumber_44 ?_
        refine nv_top (y := lN 10) (by decide) ?_
        refine nv_lrem hx hb d_Sheet_putNumber_47 (Nat.lt_of_le_of_lt (Nat.div_le_self _ _) (by omega)) (by decide) (by decide) ?_
        refine nv_l2i hx hb d_Sheet_putNumber_48 ?_
        refine kw_v (wr := []) (tr := []) (kr_V (C0 := R_Sheet) (ci := 1) (i0 := 0) (As := [.int (iZ ((((z.natAbs / (10 ^ (3 - j))) % 10 : Nat) : Int)))]) (rest := []) C0 (c_Sheet_putFigure l D Z _ h0 qb cAb g2 (t ++ (if z < 0 then [45] else []) ++ numQ z.natAbs j) ((z.natAbs / (10 ^ (3 - j))) % 10) (by assumption) (by omega) (num_room hl5 (hln j) (by omega))) q_y_Sheet_putFigure kw_94_ kw_95_ kw_96_ kw_89_ hd_y_Sheet_putFigure rfl rfl ⟨Nat.le_of_ble_eq_true rfl, Nat.le_of_ble_eq_true rfl⟩ (hP.sub (ws' := [(h0, .inr (1, [.ref qb, .int (iZ (((((t ++ (if z < 0 then [45] else []) ++ numQ z.natAbs j)).length : Nat) : Int)))])), (qb, .inl (cAb, 1440, .inl g2))]) [0, 1] rfl) (hD.sub (ws' := [(h0, .inr (1, [.ref qb, .int (iZ (((((t ++ (if z < 0 then [45] else []) ++ numQ z.natAbs j)).length : Nat) : Int)))])), (qb, .inl (cAb, 1440, .inl g2))]) [0, 1] (by decide) rfl) (hK.sub (tys' := [(cAb, .byte)]) [0] rfl) hE hS (va_free (wc := [(h0, .inr (1, [.ref qb, .int (iZ (((((t ++ (if z < 0 then [45] else []) ++ numQ z.natAbs j)).length : Nat) : Int)))])), (qb, .inl (cAb, 1440, .inl g2))]) hD hS hA [0, 1] rfl) rfl rfl rfl hl.1 rfl (Nat.le_of_ble_eq_true rfl) d_Sheet_putNumber_49 ⟨Nat.le_of_ble_eq_true rfl, Nat.le_of_ble_eq_true rfl⟩) hP hD hK hS hA [0, 1] [] [] rfl rfl (by decide) (by decide) rfl (fun g49 H locs hpost hP hD hK hS => ?_)
        have hw49 : PaperIs g49 ((t ++ (if z < 0 then [45] else []) ++ numQ z.natAbs j) ++ [chr ((z.natAbs / (10 ^ (3 - j))) % 10)]) := hpost
        have hP : va_P D classes [(h0, .inr (1, [.ref qb, .int (iZ (((((t ++ (if z < 0 then [45] else []) ++ numQ z.natAbs j) ++ [chr ((z.natAbs / (10 ^ (3 - j))) % 10)]).length : Nat) : Int)))])), (qb, .inl (cAb, 1440, .inl g49))] H := hP
        have hD : va_D A [(h0, .inr (1, [.ref qb, .int (iZ (((((t ++ (if z < 0 then [45] else []) ++ numQ z.natAbs j) ++ [chr ((z.natAbs / (10 ^ (3 - j))) % 10)]).length : Nat) : Int)))])), (qb, .inl (cAb, 1440, .inl g49))] := hD
        have hK : va_K D classes [(cAb, .byte)] s := hK
        refine lv_iinc (v := iZ (3 - ((j + 1 : Nat) : Int))) (lv' := [(3, .int (iZ (3 - ((j + 1 : Nat) : Int)))), (4, .long (lN (z.natAbs / (10 ^ (3 - j))))), (0, .ref h0), (2, .int (iZ (((z.natAbs : Nat) : Int))))]) hx hb d_Sheet_putNumber_52 hl (k := 3) rfl ((iZ_add _ _).trans (congrArg iZ (by omega))) (by decide) rfl (fun ls hl => ?_)
        refine lv_goto (tgt := 17) hx hb d_Sheet_putNumber_55 (by decide) ?_
        have ht0 : t ++ (if z < 0 then [45] else []) ++ numQ z.natAbs (j + 1) = (t ++ (if z < 0 then [45] else []) ++ numQ z.natAbs j) ++ [chr ((z.natAbs / (10 ^ (3 - j))) % 10)] := by rw [e5]; simp only [List.append_assoc]
        have hP : va_P D classes [(h0, .inr (1, [.ref qb, .int (iZ ((((t ++ (if z < 0 then [45] else []) ++ numQ z.natAbs (j + 1)).length : Nat) : Int)))])), (qb, .inl (cAb, 1440, .inl g49))] H := by rw [ht0]; exact hP
        have hD : va_D A [(h0, .inr (1, [.ref qb, .int (iZ ((((t ++ (if z < 0 then [45] else []) ++ numQ z.natAbs (j + 1)).length : Nat) : Int)))])), (qb, .inl (cAb, 1440, .inl g49))] := by rw [ht0]; exact hD
        exact ih (j + 1) g49 _ _ _ (by omega) (by omega) (by rw [ht0]; exact hw49) (hK.sub [0] rfl) (hP.sub [0, 1] rfl) (hD.sub [0, 1] (by decide) rfl) hS (lv_sub hl [2, 3, 0] rfl)
      · have c33 : z.natAbs / 10 ^ (3 - j) = 0 := Nat.eq_zero_of_not_pos c33
        refine lv_iload_n hx hb d_Sheet_putNumber_37 rfl (lv_at hl 3 rfl) ?_
        refine zv_if_ne (tgt := 52) hx hb d_Sheet_putNumber_38 (by decide) (by omega) (fun c38 => ?_) (fun c38 => ?_)
        · have e5 : numQ z.natAbs (j + 1) = numQ z.natAbs j := numQ_f (by omega) (by omega)
          refine lv_iinc (v := iZ (3 - ((j + 1 : Nat) : Int))) (lv' := [(3, .int (iZ (3 - ((j + 1 : Nat) : Int)))), (4, .long (lN (z.natAbs / (10 ^ (3 - j))))), (0, .ref h0), (2, .int (iZ (((z.natAbs : Nat) : Int))))]) hx hb d_Sheet_putNumber_52 hl (k := 3) rfl ((iZ_add _ _).trans (congrArg iZ (by omega))) (by decide) rfl (fun ls hl => ?_)
          refine lv_goto (tgt := 17) hx hb d_Sheet_putNumber_55 (by decide) ?_
          have ht0 : t ++ (if z < 0 then [45] else []) ++ numQ z.natAbs (j + 1) = t ++ (if z < 0 then [45] else []) ++ numQ z.natAbs j := by rw [e5]
          have hP : va_P D classes [(h0, .inr (1, [.ref qb, .int (iZ ((((t ++ (if z < 0 then [45] else []) ++ numQ z.natAbs (j + 1)).length : Nat) : Int)))])), (qb, .inl (cAb, 1440, .inl g2))] H := by rw [ht0]; exact hP
          have hD : va_D A [(h0, .inr (1, [.ref qb, .int (iZ ((((t ++ (if z < 0 then [45] else []) ++ numQ z.natAbs (j + 1)).length : Nat) : Int)))])), (qb, .inl (cAb, 1440, .inl g2))] := by rw [ht0]; exact hD
          exact ih (j + 1) g2 _ _ _ (by omega) (by omega) (by rw [ht0]; exact hg) (hK.sub [0] rfl) (hP.sub [0, 1] rfl) (hD.sub [0, 1] (by decide) rfl) hS (lv_sub hl [2, 3, 0] rfl)
        · have e5 : numQ z.natAbs (j + 1) = numQ z.natAbs j ++ [chr (z.natAbs / 10 ^ (3 - j) % 10)] := numQ_t (Or.inr (by omega))
          refine lv_aload_n hx hb d_Sheet_putNumber_41 rfl (lv_at hl 1 rfl) ?_
          refine lv_lload hx hb d_Sheet_putNumber_42 (lv_at hl 0 rfl) ?_
          refine lv_ldc2 (v := (10)) hx hb hown (hts _ kw_93_) d_Sheet_putNumber_44 ?_
          refine nv_top (y := lN 10) (by decide) ?_
          refine nv_lrem hx hb d_Sheet_putNumber_47 (Nat.lt_of_le_of_lt (Nat.div_le_self _ _) (by omega)) (by decide) (by decide) ?_
          refine nv_l2i hx hb d_Sheet_putNumber_48 ?_
          refine kw_v (wr := []) (tr := []) (kr_V (C0 := R_Sheet) (ci := 1) (i0 := 0) (As := [.int (iZ ((((z.natAbs / (10 ^ (3 - j))) % 10 : Nat) : Int)))]) (rest := []) C0 (c_Sheet_putFigure l D Z _ h0 qb cAb g2 (t ++ (if z < 0 then [45] else []) ++ numQ z.natAbs j) ((z.natAbs / (10 ^ (3 - j))) % 10) (by assumption) (by omega) (num_room hl5 (hln j) (by omega))) q_y_Sheet_putFigure kw_94_ kw_95_ kw_96_ kw_89_ hd_y_Sheet_putFigure rfl rfl ⟨Nat.le_of_ble_eq_true rfl, Nat.le_of_ble_eq_true rfl⟩ (hP.sub (ws' := [(h0, .inr (1, [.ref qb, .int (iZ (((((t ++ (if z < 0 then [45] else []) ++ numQ z.natAbs j)).length : Nat) : Int)))])), (qb, .inl (cAb, 1440, .inl g2))]) [0, 1] rfl) (hD.sub (ws' := [(h0, .inr (1, [.ref qb, .int (iZ (((((t ++ (if z < 0 then [45] else []) ++ numQ z.natAbs j)).length : Nat) : Int)))])), (qb, .inl (cAb, 1440, .inl g2))]) [0, 1] (by decide) rfl) (hK.sub (tys' := [(cAb, .byte)]) [0] rfl) hE hS (va_free (wc := [(h0, .inr (1, [.ref qb, .int (iZ (((((t ++ (if z < 0 then [45] else []) ++ numQ z.natAbs j)).length : Nat) : Int)))])), (qb, .inl (cAb, 1440, .inl g2))]) hD hS hA [0, 1] rfl) rfl rfl rfl hl.1 rfl (Nat.le_of_ble_eq_true rfl) d_Sheet_putNumber_49 ⟨Nat.le_of_ble_eq_true rfl, Nat.le_of_ble_eq_true rfl⟩) hP hD hK hS hA [0, 1] [] [] rfl rfl (by decide) (by decide) rfl (fun g49 H locs hpost hP hD hK hS => ?_)
          have hw49 : PaperIs g49 ((t ++ (if z < 0 then [45] else []) ++ numQ z.natAbs j) ++ [chr ((z.natAbs / (10 ^ (3 - j))) % 10)]) := hpost
          have hP : va_P D classes [(h0, .inr (1, [.ref qb, .int (iZ (((((t ++ (if z < 0 then [45] else []) ++ numQ z.natAbs j) ++ [chr ((z.natAbs / (10 ^ (3 - j))) % 10)]).length : Nat) : Int)))])), (qb, .inl (cAb, 1440, .inl g49))] H := hP
          have hD : va_D A [(h0, .inr (1, [.ref qb, .int (iZ (((((t ++ (if z < 0 then [45] else []) ++ numQ z.natAbs j) ++ [chr ((z.natAbs / (10 ^ (3 - j))) % 10)]).length : Nat) : Int)))])), (qb, .inl (cAb, 1440, .inl g49))] := hD
          have hK : va_K D classes [(cAb, .byte)] s := hK
          refine lv_iinc (v := iZ (3 - ((j + 1 : Nat) : Int))) (lv' := [(3, .int (iZ (3 - ((j + 1 : Nat) : Int)))), (4, .long (lN (z.natAbs / (10 ^ (3 - j))))), (0, .ref h0), (2, .int (iZ (((z.natAbs : Nat) : Int))))]) hx hb d_Sheet_putNumber_52 hl (k := 3) rfl ((iZ_add _ _).trans (congrArg iZ (by omega))) (by decide) rfl (fun ls hl => ?_)
          refine lv_goto (tgt := 17) hx hb d_Sheet_putNumber_55 (by decide) ?_
          have ht0 : t ++ (if z < 0 then [45] else []) ++ numQ z.natAbs (j + 1) = (t ++ (if z < 0 then [45] else []) ++ numQ z.natAbs j) ++ [chr ((z.natAbs / (10 ^ (3 - j))) % 10)] := by rw [e5]; simp only [List.append_assoc]
          have hP : va_P D classes [(h0, .inr (1, [.ref qb, .int (iZ ((((t ++ (if z < 0 then [45] else []) ++ numQ z.natAbs (j + 1)).length : Nat) : Int)))])), (qb, .inl (cAb, 1440, .inl g49))] H := by rw [ht0]; exact hP
          have hD : va_D A [(h0, .inr (1, [.ref qb, .int (iZ ((((t ++ (if z < 0 then [45] else []) ++ numQ z.natAbs (j + 1)).length : Nat) : Int)))])), (qb, .inl (cAb, 1440, .inl g49))] := by rw [ht0]; exact hD
          exact ih (j + 1) g49 _ _ _ (by omega) (by omega) (by rw [ht0]; exact hw49) (hK.sub [0] rfl) (hP.sub [0, 1] rfl) (hD.sub [0, 1] (by decide) rfl) hS (lv_sub hl [2, 3, 0] rfl)
set_option maxHeartbeats 4000000 in
set_option maxRecDepth 100000 in
theorem c_Sheet_putNumber (l : Launch) (D : va_G) (Z : Nat → Nat) (hz9 : Nat) (h0 : Nat) (qb : Nat) (cAb : ClassId) (g : Nat → Int32) (t : List Nat) (z : Int) (hT : PaperIs g t) (hz : -10000 < z ∧ z < 10000) (hl5 : t.length + 5 ≤ 1440) : Met l y_Sheet_putNumber (.code y_Sheet_putNumber b_Sheet_putNumber 6 none :: gT) ({ frames := 2, cells := 0, slots := 0, locals := 42 } : Room) (va_Pc [.ref h0, .int (iZ (z))] (cpre D Z [(h0, .inr (1, [.ref qb, .int (iZ ((((t).length : Nat) : Int)))])), (qb, .inl (cAb, 1440, .inl g))] [(cAb, .byte)] hz9)) (Qc_Sheet_putNumber D h0 qb cAb g t z (va_A [(h0, .inr (1, [.ref qb, .int (iZ ((((t).length : Nat) : Int)))])), (qb, .inl (cAb, 1440, .inl g))] hz9)) 0 0 (va_A [(h0, .inr (1, [.ref qb, .int (iZ ((((t).length : Nat) : Int)))])), (qb, .inl (cAb, 1440, .inl g))] hz9) := by
  refine met_go (Qf := Qc_Sheet_putNumber D h0 qb cAb g t z) (ff := fun A => A) (by decide) ?_
  intro p e s m below meth c A C0 hin hsz9 hA hE hK hP hD
  obtain ⟨hx, hb, hml, hown, hts, hr, hlocks⟩ := id C0
  have hS : va_S A s.heap s.heap [] := va_S.rf
  have hl := lv_entry [.ref h0, .int (iZ (z))] (n := 6) (Nat.le_of_ble_eq_true rfl)
  rw [lg_entry_eq]
  generalize (lg_sl [.ref h0, .int (iZ (z))] ++ List.replicate (6 - (lg_sl [.ref h0, .int (iZ (z))]).length) Slot.unset).toArray = ls at hl ⊢
  have hl : lv_has ls 6 [(0, .ref h0), (1, .int (iZ (z)))] := hl
  refine lv_iload_n hx hb d_Sheet_putNumber_0 rfl (lv_at hl 1 rfl) ?_
  refine zv_if_ge (tgt := 10) hx hb d_Sheet_putNumber_1 (by decide) (by omega) (fun c1 => ?_) (fun c1 => ?_)
  · have e1 : (if z < 0 then [45] else [] : List Nat) = [] := if_neg (by omega)
    refine lv_iload_n hx hb d_Sheet_putNumber_10 rfl (lv_at hl 1 rfl) ?_
    refine zv_mabs hx hb (hml.trans hl.1.symm) hown (hts _ kw_97_) (hts _ kw_98_) (hts _ kw_0_) (hts _ q_Lib_Math_abs_name) (Nat.le_of_ble_eq_true rfl) (Nat.le_of_ble_eq_true rfl) (Nat.le_of_ble_eq_true rfl) (Nat.le_of_ble_eq_true rfl) (by omega) d_Sheet_putNumber_11 ?_
    refine lv_istore_n (lv' := [(2, .int (iZ ((((z).natAbs : Nat) : Int)))), (0, .ref h0), (1, .int (iZ (z)))]) hx hb d_Sheet_putNumber_14 rfl hl (by decide) rfl (fun ls hl => ?_)
    refine lv_iconst (v := iZ (3)) hx hb d_Sheet_putNumber_15 rfl ?_
    refine lv_istore_n (lv' := [(3, .int (iZ (3))), (2, .int (iZ ((((z).natAbs : Nat) : Int)))), (0, .ref h0), (1, .int (iZ (z)))]) hx hb d_Sheet_putNumber_16 rfl hl (by decide) rfl (fun ls hl => ?_)
    have ht0 : t ++ (if z < 0 then [45] else []) ++ numQ z.natAbs 0 = t := by rw [e1]; simp [numQ]
    have hP : va_P D classes [(h0, .inr (1, [.ref qb, .int (iZ ((((t ++ (if z < 0 then [45] else []) ++ numQ z.natAbs 0).length : Nat) : Int)))])), (qb, .inl (cAb, 1440, .inl g))] s.heap := by rw [ht0]; exact hP
    have hD : va_D A [(h0, .inr (1, [.ref qb, .int (iZ ((((t ++ (if z < 0 then [45] else []) ++ numQ z.natAbs 0).length : Nat) : Int)))])), (qb, .inl (cAb, 1440, .inl g))] := by rw [ht0]; exact hD
    exact lp_Sheet_putNumber_17 h0 qb cAb g t z hT hz hl5 C0 hA hE (4 - 0 + 1) 0 g _ _ _ (Nat.lt_succ_self _) (by omega) (by rw [ht0]; exact hT) (hK.sub [0] rfl) (hP.sub [0, 1] rfl) (hD.sub [0, 1] (by decide) rfl) hS (lv_sub hl [2, 1, 0] rfl)
  · have e1 : (if z < 0 then [45] else [] : List Nat) = [45] := if_pos (by omega)
    refine lv_aload_n hx hb d_Sheet_putNumber_4 rfl (lv_at hl 0 rfl) ?_
    refine lv_bipush (v := iZ (45)) hx hb d_Sheet_putNumber_5 (by decide) ?_
    refine zv_top (y := iZ (((45 : Nat) : Int))) (rfl) ?_
    refine kw_v (wr := []) (tr := []) (kr_V (C0 := R_Sheet) (ci := 1) (i0 := 0) (As := [.int (iZ (((45 : Nat) : Int)))]) (rest := []) C0 (c_Sheet_put l D Z _ h0 qb cAb g t 45 (by assumption) (by omega) (by simp at *; omega)) q_y_Sheet_put kw_90_ kw_91_ kw_92_ kw_89_ hd_y_Sheet_put rfl rfl ⟨Nat.le_of_ble_eq_true rfl, Nat.le_of_ble_eq_true rfl⟩ (hP.sub (ws' := [(h0, .inr (1, [.ref qb, .int (iZ ((((t).length : Nat) : Int)))])), (qb, .inl (cAb, 1440, .inl g))]) [0, 1] rfl) (hD.sub (ws' := [(h0, .inr (1, [.ref qb, .int (iZ ((((t).length : Nat) : Int)))])), (qb, .inl (cAb, 1440, .inl g))]) [0, 1] (by decide) rfl) (hK.sub (tys' := [(cAb, .byte)]) [0] rfl) hE hS (va_free (wc := [(h0, .inr (1, [.ref qb, .int (iZ ((((t).length : Nat) : Int)))])), (qb, .inl (cAb, 1440, .inl g))]) hD hS hA [0, 1] rfl) rfl rfl rfl hl.1 rfl (Nat.le_of_ble_eq_true rfl) d_Sheet_putNumber_7 ⟨Nat.le_of_ble_eq_true rfl, Nat.le_of_ble_eq_true rfl⟩) hP hD hK hS hA [0, 1] [] [] rfl rfl (by decide) (by decide) rfl (fun g7 H locs hpost hP hD hK hS => ?_)
    have hw7 : PaperIs g7 (t ++ [45]) := hpost
    have hP : va_P D classes [(h0, .inr (1, [.ref qb, .int (iZ ((((t ++ [45]).length : Nat) : Int)))])), (qb, .inl (cAb, 1440, .inl g7))] H := hP
    have hD : va_D A [(h0, .inr (1, [.ref qb, .int (iZ ((((t ++ [45]).length : Nat) : Int)))])), (qb, .inl (cAb, 1440, .inl g7))] := hD
    have hK : va_K D classes [(cAb, .byte)] s := hK
    refine lv_iload_n hx hb d_Sheet_putNumber_10 rfl (lv_at hl 1 rfl) ?_
    refine zv_mabs hx hb (hml.trans hl.1.symm) hown (hts _ kw_97_) (hts _ kw_98_) (hts _ kw_0_) (hts _ q_Lib_Math_abs_name) (Nat.le_of_ble_eq_true rfl) (Nat.le_of_ble_eq_true rfl) (Nat.le_of_ble_eq_true rfl) (Nat.le_of_ble_eq_true rfl) (by omega) d_Sheet_putNumber_11 ?_
    refine lv_istore_n (lv' := [(2, .int (iZ ((((z).natAbs : Nat) : Int)))), (0, .ref h0), (1, .int (iZ (z)))]) hx hb d_Sheet_putNumber_14 rfl hl (by decide) rfl (fun ls hl => ?_)
    refine lv_iconst (v := iZ (3)) hx hb d_Sheet_putNumber_15 rfl ?_
    refine lv_istore_n (lv' := [(3, .int (iZ (3))), (2, .int (iZ ((((z).natAbs : Nat) : Int)))), (0, .ref h0), (1, .int (iZ (z)))]) hx hb d_Sheet_putNumber_16 rfl hl (by decide) rfl (fun ls hl => ?_)
    have ht0 : t ++ (if z < 0 then [45] else []) ++ numQ z.natAbs 0 = t ++ [45] := by rw [e1]; simp [numQ]
    have hP : va_P D classes [(h0, .inr (1, [.ref qb, .int (iZ ((((t ++ (if z < 0 then [45] else []) ++ numQ z.natAbs 0).length : Nat) : Int)))])), (qb, .inl (cAb, 1440, .inl g7))] H := by rw [ht0]; exact hP
    have hD : va_D A [(h0, .inr (1, [.ref qb, .int (iZ ((((t ++ (if z < 0 then [45] else []) ++ numQ z.natAbs 0).length : Nat) : Int)))])), (qb, .inl (cAb, 1440, .inl g7))] := by rw [ht0]; exact hD
    exact lp_Sheet_putNumber_17 h0 qb cAb g t z hT hz hl5 C0 hA hE (4 - 0 + 1) 0 g7 _ _ _ (Nat.lt_succ_self _) (by omega) (by rw [ht0]; exact hw7) (hK.sub [0] rfl) (hP.sub [0, 1] rfl) (hD.sub [0, 1] (by decide) rfl) hS (lv_sub hl [2, 1, 0] rfl)
