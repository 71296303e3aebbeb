theorem kw_295_ : Cond.methodLink R_Mo 1 objectInit ∈ gT := gT_in 628 (by decide +kernel) (by decide +kernel)
theorem kw_296_ : Cond.arrayClass .int ∈ gT := gT_in 684 (by decide +kernel) (by decide +kernel)
theorem kw_297_ : Cond.fieldLink R_Mo 7 "FloatWriterModel" "unit" "[I" ∈ gT := gT_in 630 (by decide +kernel) (by decide +kernel)
theorem kw_298_ : Cond.fieldLink R_Mo 13 "FloatWriterModel" "limbs" "[I" ∈ gT := gT_in 631 (by decide +kernel) (by decide +kernel)
theorem kw_299_ : Cond.fieldLink R_Mo 16 "FloatWriterModel" "value" "[I" ∈ gT := gT_in 632 (by decide +kernel) (by decide +kernel)
theorem kw_300_ : Cond.fieldLink R_Mo 19 "FloatWriterModel" "low" "[I" ∈ gT := gT_in 633 (by decide +kernel) (by decide +kernel)
theorem kw_301_ : Cond.fieldLink R_Mo 22 "FloatWriterModel" "high" "[I" ∈ gT := gT_in 634 (by decide +kernel) (by decide +kernel)
theorem kw_302_ : Cond.fieldLink R_Mo 25 "FloatWriterModel" "rounded" "[I" ∈ gT := gT_in 635 (by decide +kernel) (by decide +kernel)
theorem kw_303_ : Cond.fieldLink R_Mo 28 "FloatWriterModel" "paper" "[I" ∈ gT := gT_in 636 (by decide +kernel) (by decide +kernel)
theorem kw_304_ : Cond.fieldLink R_Mo 31 "FloatWriterModel" "thrown" "I" ∈ gT := gT_in 629 (by decide +kernel) (by decide +kernel)
theorem d_Mo_init_0 : decode b_Mo_init 0 = .ok (.aload_n 0, 1) := by decide +kernel
theorem d_Mo_init_1 : decode b_Mo_init 1 = .ok (.invokespecial 1, 3) := by decide +kernel
theorem d_Mo_init_4 : decode b_Mo_init 4 = .ok (.aload_n 0, 1) := by decide +kernel
theorem d_Mo_init_5 : decode b_Mo_init 5 = .ok (.sipush 156, 3) := by decide +kernel
theorem d_Mo_init_8 : decode b_Mo_init 8 = .ok (.newarray .int, 2) := by decide +kernel
theorem d_Mo_init_10 : decode b_Mo_init 10 = .ok (.putfield 7, 3) := by decide +kernel
theorem d_Mo_init_13 : decode b_Mo_init 13 = .ok (.aload_n 0, 1) := by decide +kernel
theorem d_Mo_init_14 : decode b_Mo_init 14 = .ok (.sipush 156, 3) := by decide +kernel
theorem d_Mo_init_17 : decode b_Mo_init 17 = .ok (.newarray .int, 2) := by decide +kernel
theorem d_Mo_init_19 : decode b_Mo_init 19 = .ok (.putfield 13, 3) := by decide +kernel
theorem d_Mo_init_22 : decode b_Mo_init 22 = .ok (.aload_n 0, 1) := by decide +kernel
theorem d_Mo_init_23 : decode b_Mo_init 23 = .ok (.sipush 1404, 3) := by decide +kernel
theorem d_Mo_init_26 : decode b_Mo_init 26 = .ok (.newarray .int, 2) := by decide +kernel
theorem d_Mo_init_28 : decode b_Mo_init 28 = .ok (.putfield 16, 3) := by decide +kernel
theorem d_Mo_init_31 : decode b_Mo_init 31 = .ok (.aload_n 0, 1) := by decide +kernel
theorem d_Mo_init_32 : decode b_Mo_init 32 = .ok (.sipush 1404, 3) := by decide +kernel
theorem d_Mo_init_35 : decode b_Mo_init 35 = .ok (.newarray .int, 2) := by decide +kernel
theorem d_Mo_init_37 : decode b_Mo_init 37 = .ok (.putfield 19, 3) := by decide +kernel
theorem d_Mo_init_40 : decode b_Mo_init 40 = .ok (.aload_n 0, 1) := by decide +kernel
theorem d_Mo_init_41 : decode b_Mo_init 41 = .ok (.sipush 1404, 3) := by decide +kernel
theorem d_Mo_init_44 : decode b_Mo_init 44 = .ok (.newarray .int, 2) := by decide +kernel
theorem d_Mo_init_46 : decode b_Mo_init 46 = .ok (.putfield 22, 3) := by decide +kernel
theorem d_Mo_init_49 : decode b_Mo_init 49 = .ok (.aload_n 0, 1) := by decide +kernel
theorem d_Mo_init_50 : decode b_Mo_init 50 = .ok (.sipush 1404, 3) := by decide +kernel
theorem d_Mo_init_53 : decode b_Mo_init 53 = .ok (.newarray .int, 2) := by decide +kernel
theorem d_Mo_init_55 : decode b_Mo_init 55 = .ok (.putfield 25, 3) := by decide +kernel
theorem d_Mo_init_58 : decode b_Mo_init 58 = .ok (.aload_n 0, 1) := by decide +kernel
theorem d_Mo_init_59 : decode b_Mo_init 59 = .ok (.sipush 1600, 3) := by decide +kernel
theorem d_Mo_init_62 : decode b_Mo_init 62 = .ok (.newarray .int, 2) := by decide +kernel
theorem d_Mo_init_64 : decode b_Mo_init 64 = .ok (.putfield 28, 3) := by decide +kernel
theorem d_Mo_init_67 : decode b_Mo_init 67 = .ok (.return_, 1) := by decide +kernel
theorem d_Mo_thrown_0 : decode b_Mo_thrown 0 = .ok (.aload_n 0, 1) := by decide +kernel
theorem d_Mo_thrown_1 : decode b_Mo_thrown 1 = .ok (.getfield 31, 3) := by decide +kernel
theorem d_Mo_thrown_4 : decode b_Mo_thrown 4 = .ok (.ireturn, 1) := by decide +kernel
theorem d_Mo_isWrong_0 : decode b_Mo_isWrong 0 = .ok (.iload_n 2, 1) := by decide +kernel
theorem d_Mo_isWrong_1 : decode b_Mo_isWrong 1 = .ok (.ifCond .eq 16, 3) := by decide +kernel
theorem d_Mo_isWrong_4 : decode b_Mo_isWrong 4 = .ok (.lload_n 0, 1) := by decide +kernel
theorem d_Mo_isWrong_5 : decode b_Mo_isWrong 5 = .ok (.bipush 32, 2) := by decide +kernel
theorem d_Mo_isWrong_7 : decode b_Mo_isWrong 7 = .ok (.lushr, 1) := by decide +kernel
theorem d_Mo_isWrong_8 : decode b_Mo_isWrong 8 = .ok (.lconst 0, 1) := by decide +kernel
theorem d_Mo_isWrong_9 : decode b_Mo_isWrong 9 = .ok (.lcmp, 1) := by decide +kernel
theorem d_Mo_isWrong_10 : decode b_Mo_isWrong 10 = .ok (.ifCond .eq 7, 3) := by decide +kernel
theorem d_Mo_isWrong_13 : decode b_Mo_isWrong 13 = .ok (.iconst 1, 1) := by decide +kernel
theorem d_Mo_isWrong_14 : decode b_Mo_isWrong 14 = .ok (.goto 4, 3) := by decide +kernel
theorem d_Mo_isWrong_17 : decode b_Mo_isWrong 17 = .ok (.iconst 0, 1) := by decide +kernel
theorem d_Mo_isWrong_18 : decode b_Mo_isWrong 18 = .ok (.ireturn, 1) := by decide +kernel
abbrev Qc_Mo_init (D : va_G) (h0 : Nat) (A : Nat → Prop) : Array Value → State → Outcome → State → Prop := va_Qv (fun u : Nat × Nat × Nat × Nat × Nat × Nat × Nat × ClassId × ClassId × ClassId × ClassId × ClassId × ClassId × ClassId => True) (fun (u : Nat × Nat × Nat × Nat × Nat × Nat × Nat × ClassId × ClassId × ClassId × ClassId × ClassId × ClassId × ClassId) t9 => cpost D A [(h0, .inr (5, [.int (iZ (0)), .ref (u.1), .ref (u.2.1), .ref (u.2.2.1), .ref (u.2.2.2.1), .ref (u.2.2.2.2.1), .ref (u.2.2.2.2.2.1), .ref (u.2.2.2.2.2.2.1), .int (iZ (((([] : List Nat).length : Nat) : Int))), .int (bZ (false = true)), .int (iZ (((0 : Nat) : Int))), .long (lN (0)), .int (iZ (((0 : Nat) : Int))), .int (iZ (((0 : Nat) : Int))), .long (lN (0)), .int (iZ (0)), .long (lN (0)), .int (iZ (0))])), ((u.1), .inl ((u.2.2.2.2.2.2.2.1), 156, .inl ((fun _ => 0)))), ((u.2.1), .inl ((u.2.2.2.2.2.2.2.2.1), 156, .inl ((fun _ => 0)))), ((u.2.2.1), .inl ((u.2.2.2.2.2.2.2.2.2.1), 1404, .inl ((fun _ => 0)))), ((u.2.2.2.1), .inl ((u.2.2.2.2.2.2.2.2.2.2.1), 1404, .inl ((fun _ => 0)))), ((u.2.2.2.2.1), .inl ((u.2.2.2.2.2.2.2.2.2.2.2.1), 1404, .inl ((fun _ => 0)))), ((u.2.2.2.2.2.1), .inl ((u.2.2.2.2.2.2.2.2.2.2.2.2.1), 1404, .inl ((fun _ => 0)))), ((u.2.2.2.2.2.2.1), .inl ((u.2.2.2.2.2.2.2.2.2.2.2.2.2), 1600, .inl ((fun _ => 0))))] [((u.2.2.2.2.2.2.2.1), .int), ((u.2.2.2.2.2.2.2.2.1), .int), ((u.2.2.2.2.2.2.2.2.2.1), .int), ((u.2.2.2.2.2.2.2.2.2.2.1), .int), ((u.2.2.2.2.2.2.2.2.2.2.2.1), .int), ((u.2.2.2.2.2.2.2.2.2.2.2.2.1), .int), ((u.2.2.2.2.2.2.2.2.2.2.2.2.2), .int)] t9) A
set_option maxHeartbeats 4000000 in
set_option maxRecDepth 100000 in
theorem c_Mo_init (l : Launch) (D : va_G) (Z : Nat → Nat) (hz9 : Nat) (h0 : Nat)  : Met l y_Mo_init (.code y_Mo_init b_Mo_init 1 none :: gT) ({ frames := 1, cells := 7, slots := 7528, locals := 12 } : Room) (va_Pc [.ref h0] (cpre D Z [(h0, .inr (5, [.int (iZ (0)), .null, .null, .null, .null, .null, .null, .null, .int (iZ (0)), .int (iZ (0)), .int (iZ (0)), .long (lN (0)), .int (iZ (0)), .int (iZ (0)), .long (lN (0)), .int (iZ (0)), .long (lN (0)), .int (iZ (0))]))] [] hz9)) (Qc_Mo_init D h0 (va_A [(h0, .inr (5, [.int (iZ (0)), .null, .null, .null, .null, .null, .null, .null, .int (iZ (0)), .int (iZ (0)), .int (iZ (0)), .long (lN (0)), .int (iZ (0)), .int (iZ (0)), .long (lN (0)), .int (iZ (0)), .long (lN (0)), .int (iZ (0))]))] hz9)) 7 7528 (va_A [(h0, .inr (5, [.int (iZ (0)), .null, .null, .null, .null, .null, .null, .null, .int (iZ (0)), .int (iZ (0)), .int (iZ (0)), .long (lN (0)), .int (iZ (0)), .int (iZ (0)), .long (lN (0)), .int (iZ (0)), .long (lN (0)), .int (iZ (0))]))] hz9) := by
  refine met_go (Qf := Qc_Mo_init D h0) (ff := fun A => A) (by decide) ?_
  intro p e s m below meth c A C0 hin hsz9 hA hE hK hP hD
  obtain ⟨hx, hb, hml, hown, hts, hr, hlocks⟩ := id C0
  have hS : va_S A s.heap s.heap [] := va_S.rf
  have hl := lv_entry [.ref h0] (n := 1) (Nat.le_of_ble_eq_true rfl)
  rw [lg_entry_eq]
  generalize (lg_sl [.ref h0] ++ List.replicate (1 - (lg_sl [.ref h0]).length) Slot.unset).toArray = ls at hl ⊢
  have hl : lv_has ls 1 [(0, .ref h0)] := hl
  refine lv_aload_n hx hb d_Mo_init_0 rfl (lv_at hl 0 rfl) ?_
  refine W.objInit hx hb hown (hts _ kw_295_) (hts _ kw_20_) (hts _ q_objectInit) rfl (by rw [hml]; exact hl.1) rfl d_Mo_init_1 (Nat.le_of_ble_eq_true rfl) (Nat.le_of_ble_eq_true rfl) ?_
  refine W.eq (g2 := F0 m 4 ls []) rfl ?_
  refine lv_aload_n hx hb d_Mo_init_4 rfl (lv_at hl 0 rfl) ?_
  refine lv_sipush (v := iZ (156)) hx hb d_Mo_init_5 (by decide) ?_
  refine va_newa (atype := .int) (N' := 156) (a0 := (156, .inl (fun _ => 0))) (ty := .int) hx hb (hts _ kw_296_) rfl hK hP hD hS hA (fun _ => rfl) (by decide) (by decide) (by decide) (Nat.le_of_ble_eq_true rfl) (Nat.le_of_ble_eq_true rfl) d_Mo_init_8 (fun q8 cA8 H hK hP hD hS => ?_)
  refine W.widen (k := 1) (n := 156) (by decide) (by decide) ?_
  have hP : va_P D classes [(h0, .inr (5, [.int (iZ (0)), .null, .null, .null, .null, .null, .null, .null, .int (iZ (0)), .int (iZ (0)), .int (iZ (0)), .long (lN (0)), .int (iZ (0)), .int (iZ (0)), .long (lN (0)), .int (iZ (0)), .long (lN (0)), .int (iZ (0))])), (q8, .inl (cA8, 156, .inl ((fun _ => 0))))] H := hP
  have hD : va_D A [(h0, .inr (5, [.int (iZ (0)), .null, .null, .null, .null, .null, .null, .null, .int (iZ (0)), .int (iZ (0)), .int (iZ (0)), .long (lN (0)), .int (iZ (0)), .int (iZ (0)), .long (lN (0)), .int (iZ (0)), .long (lN (0)), .int (iZ (0))])), (q8, .inl (cA8, 156, .inl ((fun _ => 0))))] := hD
  have hK : va_K D classes [(cA8, .int)] s := hK
  refine va_putF (D := D) (ci := 5) (v := .ref q8) (ty := .array .int) (C := R_Mo) (T := F_Mo) (N := 18) hx hb hts i_Mo t_Mo t_Mo_ok n_Mo hown hK hP hD hS 0 rfl rfl 1 (by decide) (hts _ kw_297_) (fun _ h9 => h9) rfl hin rfl (by decide +kernel) rfl rfl (Nat.le_of_ble_eq_true rfl) d_Mo_init_10 (fun H locs hP hD hS => ?_)
  have hP : va_P D classes [(h0, .inr (5, [.int (iZ (0)), .ref q8, .null, .null, .null, .null, .null, .null, .int (iZ (0)), .int (iZ (0)), .int (iZ (0)), .long (lN (0)), .int (iZ (0)), .int (iZ (0)), .long (lN (0)), .int (iZ (0)), .long (lN (0)), .int (iZ (0))])), (q8, .inl (cA8, 156, .inl ((fun _ => 0))))] H := hP
  have hD : va_D A [(h0, .inr (5, [.int (iZ (0)), .ref q8, .null, .null, .null, .null, .null, .null, .int (iZ (0)), .int (iZ (0)), .int (iZ (0)), .long (lN (0)), .int (iZ (0)), .int (iZ (0)), .long (lN (0)), .int (iZ (0)), .long (lN (0)), .int (iZ (0))])), (q8, .inl (cA8, 156, .inl ((fun _ => 0))))] := hD
  refine lv_aload_n hx hb d_Mo_init_13 rfl (lv_at hl 0 rfl) ?_
  refine lv_sipush (v := iZ (156)) hx hb d_Mo_init_14 (by decide) ?_
  refine va_newa (atype := .int) (N' := 156) (a0 := (156, .inl (fun _ => 0))) (ty := .int) hx hb (hts _ kw_296_) rfl hK hP hD hS hA (fun _ => rfl) (by decide) (by decide) (by decide) (Nat.le_of_ble_eq_true rfl) (Nat.le_of_ble_eq_true rfl) d_Mo_init_17 (fun q17 cA17 H hK hP hD hS => ?_)
  refine W.widen (k := 2) (n := 312) (by decide) (by decide) ?_
  have hP : va_P D classes [(h0, .inr (5, [.int (iZ (0)), .ref q8, .null, .null, .null, .null, .null, .null, .int (iZ (0)), .int (iZ (0)), .int (iZ (0)), .long (lN (0)), .int (iZ (0)), .int (iZ (0)), .long (lN (0)), .int (iZ (0)), .long (lN (0)), .int (iZ (0))])), (q8, .inl (cA8, 156, .inl ((fun _ => 0)))), (q17, .inl (cA17, 156, .inl ((fun _ => 0))))] H := hP
  have hD : va_D A [(h0, .inr (5, [.int (iZ (0)), .ref q8, .null, .null, .null, .null, .null, .null, .int (iZ (0)), .int (iZ (0)), .int (iZ (0)), .long (lN (0)), .int (iZ (0)), .int (iZ (0)), .long (lN (0)), .int (iZ (0)), .long (lN (0)), .int (iZ (0))])), (q8, .inl (cA8, 156, .inl ((fun _ => 0)))), (q17, .inl (cA17, 156, .inl ((fun _ => 0))))] := hD
  have hK : va_K D classes [(cA8, .int), (cA17, .int)] s := hK
  refine va_putF (D := D) (ci := 5) (v := .ref q17) (ty := .array .int) (C := R_Mo) (T := F_Mo) (N := 18) hx hb hts i_Mo t_Mo t_Mo_ok n_Mo hown hK hP hD hS 0 rfl rfl 2 (by decide) (hts _ kw_298_) (fun _ h9 => h9) rfl hin rfl (by decide +kernel) rfl rfl (Nat.le_of_ble_eq_true rfl) d_Mo_init_19 (fun H locs hP hD hS => ?_)
  have hP : va_P D classes [(h0, .inr (5, [.int (iZ (0)), .ref q8, .ref q17, .null, .null, .null, .null, .null, .int (iZ (0)), .int (iZ (0)), .int (iZ (0)), .long (lN (0)), .int (iZ (0)), .int (iZ (0)), .long (lN (0)), .int (iZ (0)), .long (lN (0)), .int (iZ (0))])), (q8, .inl (cA8, 156, .inl ((fun _ => 0)))), (q17, .inl (cA17, 156, .inl ((fun _ => 0))))] H := hP
  have hD : va_D A [(h0, .inr (5, [.int (iZ (0)), .ref q8, .ref q17, .null, .null, .null, .null, .null, .int (iZ (0)), .int (iZ (0)), .int (iZ (0)), .long (lN (0)), .int (iZ (0)), .int (iZ (0)), .long (lN (0)), .int (iZ (0)), .long (lN (0)), .int (iZ (0))])), (q8, .inl (cA8, 156, .inl ((fun _ => 0)))), (q17, .inl (cA17, 156, .inl ((fun _ => 0))))] := hD
  refine lv_aload_n hx hb d_Mo_init_22 rfl (lv_at hl 0 rfl) ?_
  refine lv_sipush (v := iZ (1404)) hx hb d_Mo_init_23 (by decide) ?_
  refine va_newa (atype := .int) (N' := 1404) (a0 := (1404, .inl (fun _ => 0))) (ty := .int) hx hb (hts _ kw_296_) rfl hK hP hD hS hA (fun _ => rfl) (by decide) (by decide) (by decide) (Nat.le_of_ble_eq_true rfl) (Nat.le_of_ble_eq_true rfl) d_Mo_init_26 (fun q26 cA26 H hK hP hD hS => ?_)
  refine W.widen (k := 3) (n := 1716) (by decide) (by decide) ?_
  have hP : va_P D classes [(h0, .inr (5, [.int (iZ (0)), .ref q8, .ref q17, .null, .null, .null, .null, .null, .int (iZ (0)), .int (iZ (0)), .int (iZ (0)), .long (lN (0)), .int (iZ (0)), .int (iZ (0)), .long (lN (0)), .int (iZ (0)), .long (lN (0)), .int (iZ (0))])), (q8, .inl (cA8, 156, .inl ((fun _ => 0)))), (q17, .inl (cA17, 156, .inl ((fun _ => 0)))), (q26, .inl (cA26, 1404, .inl ((fun _ => 0))))] H := hP
  have hD : va_D A [(h0, .inr (5, [.int (iZ (0)), .ref q8, .ref q17, .null, .null, .null, .null, .null, .int (iZ (0)), .int (iZ (0)), .int (iZ (0)), .long (lN (0)), .int (iZ (0)), .int (iZ (0)), .long (lN (0)), .int (iZ (0)), .long (lN (0)), .int (iZ (0))])), (q8, .inl (cA8, 156, .inl ((fun _ => 0)))), (q17, .inl (cA17, 156, .inl ((fun _ => 0)))), (q26, .inl (cA26, 1404, .inl ((fun _ => 0))))] := hD
  have hK : va_K D classes [(cA8, .int), (cA17, .int), (cA26, .int)] s := hK
  refine va_putF (D := D) (ci := 5) (v := .ref q26) (ty := .array .int) (C := R_Mo) (T := F_Mo) (N := 18) hx hb hts i_Mo t_Mo t_Mo_ok n_Mo hown hK hP hD hS 0 rfl rfl 3 (by decide) (hts _ kw_299_) (fun _ h9 => h9) rfl hin rfl (by decide +kernel) rfl rfl (Nat.le_of_ble_eq_true rfl) d_Mo_init_28 (fun H locs hP hD hS => ?_)
  have hP : va_P D classes [(h0, .inr (5, [.int (iZ (0)), .ref q8, .ref q17, .ref q26, .null, .null, .null, .null, .int (iZ (0)), .int (iZ (0)), .int (iZ (0)), .long (lN (0)), .int (iZ (0)), .int (iZ (0)), .long (lN (0)), .int (iZ (0)), .long (lN (0)), .int (iZ (0))])), (q8, .inl (cA8, 156, .inl ((fun _ => 0)))), (q17, .inl (cA17, 156, .inl ((fun _ => 0)))), (q26, .inl (cA26, 1404, .inl ((fun _ => 0))))] H := hP
  have hD : va_D A [(h0, .inr (5, [.int (iZ (0)), .ref q8, .ref q17, .ref q26, .null, .null, .null, .null, .int (iZ (0)), .int (iZ (0)), .int (iZ (0)), .long (lN (0)), .int (iZ (0)), .int (iZ (0)), .long (lN (0)), .int (iZ (0)), .long (lN (0)), .int (iZ (0))])), (q8, .inl (cA8, 156, .inl ((fun _ => 0)))), (q17, .inl (cA17, 156, .inl ((fun _ => 0)))), (q26, .inl (cA26, 1404, .inl ((fun _ => 0))))] := hD
  refine lv_aload_n hx hb d_Mo_init_31 rfl (lv_at hl 0 rfl) ?_
  refine lv_sipush (v := iZ (1404)) hx hb d_Mo_init_32 (by decide) ?_
  refine va_newa (atype := .int) (N' := 1404) (a0 := (1404, .inl (fun _ => 0))) (ty := .int) hx hb (hts _ kw_296_) rfl hK hP hD hS hA (fun _ => rfl) (by decide) (by decide) (by decide) (Nat.le_of_ble_eq_true rfl) (Nat.le_of_ble_eq_true rfl) d_Mo_init_35 (fun q35 cA35 H hK hP hD hS => ?_)
  refine W.widen (k := 4) (n := 3120) (by decide) (by decide) ?_
  have hP : va_P D classes [(h0, .inr (5, [.int (iZ (0)), .ref q8, .ref q17, .ref q26, .null, .null, .null, .null, .int (iZ (0)), .int (iZ (0)), .int (iZ (0)), .long (lN (0)), .int (iZ (0)), .int (iZ (0)), .long (lN (0)), .int (iZ (0)), .long (lN (0)), .int (iZ (0))])), (q8, .inl (cA8, 156, .inl ((fun _ => 0)))), (q17, .inl (cA17, 156, .inl ((fun _ => 0)))), (q26, .inl (cA26, 1404, .inl ((fun _ => 0)))), (q35, .inl (cA35, 1404, .inl ((fun _ => 0))))] H := hP
  have hD : va_D A [(h0, .inr (5, [.int (iZ (0)), .ref q8, .ref q17, .ref q26, .null, .null, .null, .null, .int (iZ (0)), .int (iZ (0)), .int (iZ (0)), .long (lN (0)), .int (iZ (0)), .int (iZ (0)), .long (lN (0)), .int (iZ (0)), .long (lN (0)), .int (iZ (0))])), (q8, .inl (cA8, 156, .inl ((fun _ => 0)))), (q17, .inl (cA17, 156, .inl ((fun _ => 0)))), (q26, .inl (cA26, 1404, .inl ((fun _ => 0)))), (q35, .inl (cA35, 1404, .inl ((fun _ => 0))))] := hD
  have hK : va_K D classes [(cA8, .int), (cA17, .int), (cA26, .int), (cA35, .int)] s := hK
  refine va_putF (D := D) (ci := 5) (v := .ref q35) (ty := .array .int) (C := R_Mo) (T := F_Mo) (N := 18) hx hb hts i_Mo t_Mo t_Mo_ok n_Mo hown hK hP hD hS 0 rfl rfl 4 (by decide) (hts _ kw_300_) (fun _ h9 => h9) rfl hin rfl (by decide +kernel) rfl rfl (Nat.le_of_ble_eq_true rfl) d_Mo_init_37 (fun H locs hP hD hS => ?_)
  have hP : va_P D classes [(h0, .inr (5, [.int (iZ (0)), .ref q8, .ref q17, .ref q26, .ref q35, .null, .null, .null, .int (iZ (0)), .int (iZ (0)), .int (iZ (0)), .long (lN (0)), .int (iZ (0)), .int (iZ (0)), .long (lN (0)), .int (iZ (0)), .long (lN (0)), .int (iZ (0))])), (q8, .inl (cA8, 156, .inl ((fun _ => 0)))), (q17, .inl (cA17, 156, .inl ((fun _ => 0)))), (q26, .inl (cA26, 1404, .inl ((fun _ => 0)))), (q35, .inl (cA35, 1404, .inl ((fun _ => 0))))] H := hP
  have hD : va_D A [(h0, .inr (5, [.int (iZ (0)), .ref q8, .ref q17, .ref q26, .ref q35, .null, .null, .null, .int (iZ (0)), .int (iZ (0)), .int (iZ (0)), .long (lN (0)), .int (iZ (0)), .int (iZ (0)), .long (lN (0)), .int (iZ (0)), .long (lN (0)), .int (iZ (0))])), (q8, .inl (cA8, 156, .inl ((fun _ => 0)))), (q17, .inl (cA17, 156, .inl ((fun _ => 0)))), (q26, .inl (cA26, 1404, .inl ((fun _ => 0)))), (q35, .inl (cA35, 1404, .inl ((fun _ => 0))))] := hD
  refine lv_aload_n hx hb d_Mo_init_40 rfl (lv_at hl 0 rfl) ?_
  refine lv_sipush (v := iZ (1404)) hx hb d_Mo_init_41 (by decide) ?_
  refine va_newa (atype := .int) (N' := 1404) (a0 := (1404, .inl (fun _ => 0))) (ty := .int) hx hb (hts _ kw_296_) rfl hK hP hD hS hA (fun _ => rfl) (by decide) (by decide) (by decide) (Nat.le_of_ble_eq_true rfl) (Nat.le_of_ble_eq_true rfl) d_Mo_init_44 (fun q44 cA44 H hK hP hD hS => ?_)
  refine W.widen (k := 5) (n := 4524) (by decide) (by decide) ?_
  have hP : va_P D classes [(h0, .inr (5, [.int (iZ (0)), .ref q8, .ref q17, .ref q26, .ref q35, .null, .null, .null, .int (iZ (0)), .int (iZ (0)), .int (iZ (0)), .long (lN (0)), .int (iZ (0)), .int (iZ (0)), .long (lN (0)), .int (iZ (0)), .long (lN (0)), .int (iZ (0))])), (q8, .inl (cA8, 156, .inl ((fun _ => 0)))), (q17, .inl (cA17, 156, .inl ((fun _ => 0)))), (q26, .inl (cA26, 1404, .inl ((fun _ => 0)))), (q35, .inl (cA35, 1404, .inl ((fun _ => 0)))), (q44, .inl (cA44, 1404, .inl ((fun _ => 0))))] H := hP
  have hD : va_D A [(h0, .inr (5, [.int (iZ (0)), .ref q8, .ref q17, .ref q26, .ref q35, .null, .null, .null, .int (iZ (0)), .int (iZ (0)), .int (iZ (0)), .long (lN (0)), .int (iZ (0)), .int (iZ (0)), .long (lN (0)), .int (iZ (0)), .long (lN (0)), .int (iZ (0))])), (q8, .inl (cA8, 156, .inl ((fun _ => 0)))), (q17, .inl (cA17, 156, .inl ((fun _ => 0)))), (q26, .inl (cA26, 1404, .inl ((fun _ => 0)))), (q35, .inl (cA35, 1404, .inl ((fun _ => 0)))), (q44, .inl (cA44, 1404, .inl ((fun _ => 0))))] := hD
  have hK : va_K D classes [(cA8, .int), (cA17, .int), (cA26, .int), (cA35, .int), (cA44, .int)] s := hK
  refine va_putF (D := D) (ci := 5) (v := .ref q44) (ty := .array .int) (C := R_Mo) (T := F_Mo) (N := 18) hx hb hts i_Mo t_Mo t_Mo_ok n_Mo hown hK hP hD hS 0 rfl rfl 5 (by decide) (hts _ kw_301_) (fun _ h9 => h9) rfl hin rfl (by decide +kernel) rfl rfl (Nat.le_of_ble_eq_true rfl) d_Mo_init_46 (fun H locs hP hD hS => ?_)
  have hP : va_P D classes [(h0, .inr (5, [.int (iZ (0)), .ref q8, .ref q17, .ref q26, .ref q35, .ref q44, .null, .null, .int (iZ (0)), .int (iZ (0)), .int (iZ (0)), .long (lN (0)), .int (iZ (0)), .int (iZ (0)), .long (lN (0)), .int (iZ (0)), .long (lN (0)), .int (iZ (0))])), (q8, .inl (cA8, 156, .inl ((fun _ => 0)))), (q17, .inl (cA17, 156, .inl ((fun _ => 0)))), (q26, .inl (cA26, 1404, .inl ((fun _ => 0)))), (q35, .inl (cA35, 1404, .inl ((fun _ => 0)))), (q44, .inl (cA44, 1404, .inl ((fun _ => 0))))] H := hP
  have hD : va_D A [(h0, .inr (5, [.int (iZ (0)), .ref q8, .ref q17, .ref q26, .ref q35, .ref q44, .null, .null, .int (iZ (0)), .int (iZ (0)), .int (iZ (0)), .long (lN (0)), .int (iZ (0)), .int (iZ (0)), .long (lN (0)), .int (iZ (0)), .long (lN (0)), .int (iZ (0))])), (q8, .inl (cA8, 156, .inl ((fun _ => 0)))), (q17, .inl (cA17, 156, .inl ((fun _ => 0)))), (q26, .inl (cA26, 1404, .inl ((fun _ => 0)))), (q35, .inl (cA35, 1404, .inl ((fun _ => 0)))), (q44, .inl (cA44, 1404, .inl ((fun _ => 0))))] := hD
  refine lv_aload_n hx hb d_Mo_init_49 rfl (lv_at hl 0 rfl) ?_
  refine lv_sipush (v := iZ (1404)) hx hb d_Mo_init_50 (by decide) ?_
  refine va_newa (atype := .int) (N' := 1404) (a0 := (1404, .inl (fun _ => 0))) (ty := .int) hx hb (hts _ kw_296_) rfl hK hP hD hS hA (fun _ => rfl) (by decide) (by decide) (by decide) (Nat.le_of_ble_eq_true rfl) (Nat.le_of_ble_eq_true rfl) d_Mo_init_53 (fun q53 cA53 H hK hP hD hS => ?_)
  refine W.widen (k := 6) (n := 5928) (by decide) (by decide) ?_
  have hP : va_P D classes [(h0, .inr (5, [.int (iZ (0)), .ref q8, .ref q17, .ref q26, .ref q35, .ref q44, .null, .null, .int (iZ (0)), .int (iZ (0)), .int (iZ (0)), .long (lN (0)), .int (iZ (0)), .int (iZ (0)), .long (lN (0)), .int (iZ (0)), .long (lN (0)), .int (iZ (0))])), (q8, .inl (cA8, 156, .inl ((fun _ => 0)))), (q17, .inl (cA17, 156, .inl ((fun _ => 0)))), (q26, .inl (cA26, 1404, .inl ((fun _ => 0)))), (q35, .inl (cA35, 1404, .inl ((fun _ => 0)))), (q44, .inl (cA44, 1404, .inl ((fun _ => 0)))), (q53, .inl (cA53, 1404, .inl ((fun _ => 0))))] H := hP
  have hD : va_D A [(h0, .inr (5, [.int (iZ (0)), .ref q8, .ref q17, .ref q26, .ref q35, .ref q44, .null, .null, .int (iZ (0)), .int (iZ (0)), .int (iZ (0)), .long (lN (0)), .int (iZ (0)), .int (iZ (0)), .long (lN (0)), .int (iZ (0)), .long (lN (0)), .int (iZ (0))])), (q8, .inl (cA8, 156, .inl ((fun _ => 0)))), (q17, .inl (cA17, 156, .inl ((fun _ => 0)))), (q26, .inl (cA26, 1404, .inl ((fun _ => 0)))), (q35, .inl (cA35, 1404, .inl ((fun _ => 0)))), (q44, .inl (cA44, 1404, .inl ((fun _ => 0)))), (q53, .inl (cA53, 1404, .inl ((fun _ => 0))))] := hD
  have hK : va_K D classes [(cA8, .int), (cA17, .int), (cA26, .int), (cA35, .int), (cA44, .int), (cA53, .int)] s := hK
  refine va_putF (D := D) (ci := 5) (v := .ref q53) (ty := .array .int) (C := R_Mo) (T := F_Mo) (N := 18) hx hb hts i_Mo t_Mo t_Mo_ok n_Mo hown hK hP hD hS 0 rfl rfl 6 (by decide) (hts _ kw_302_) (fun _ h9 => h9) rfl hin rfl (by decide +kernel) rfl rfl (Nat.le_of_ble_eq_true rfl) d_Mo_init_55 (fun H locs hP hD hS => ?_)
  have hP : va_P D classes [(h0, .inr (5, [.int (iZ (0)), .ref q8, .ref q17, .ref q26, .ref q35, .ref q44, .ref q53, .null, .int (iZ (0)), .int (iZ (0)), .int (iZ (0)), .long (lN (0)), .int (iZ (0)), .int (iZ (0)), .long (lN (0)), .int (iZ (0)), .long (lN (0)), .int (iZ (0))])), (q8, .inl (cA8, 156, .inl ((fun _ => 0)))), (q17, .inl (cA17, 156, .inl ((fun _ => 0)))), (q26, .inl (cA26, 1404, .inl ((fun _ => 0)))), (q35, .inl (cA35, 1404, .inl ((fun _ => 0)))), (q44, .inl (cA44, 1404, .inl ((fun _ => 0)))), (q53, .inl (cA53, 1404, .inl ((fun _ => 0))))] H := hP
  have hD : va_D A [(h0, .inr (5, [.int (iZ (0)), .ref q8, .ref q17, .ref q26, .ref q35, .ref q44, .ref q53, .null, .int (iZ (0)), .int (iZ (0)), .int (iZ (0)), .long (lN (0)), .int (iZ (0)), .int (iZ (0)), .long (lN (0)), .int (iZ (0)), .long (lN (0)), .int (iZ (0))])), (q8, .inl (cA8, 156, .inl ((fun _ => 0)))), (q17, .inl (cA17, 156, .inl ((fun _ => 0)))), (q26, .inl (cA26, 1404, .inl ((fun _ => 0)))), (q35, .inl (cA35, 1404, .inl ((fun _ => 0)))), (q44, .inl (cA44, 1404, .inl ((fun _ => 0)))), (q53, .inl (cA53, 1404, .inl ((fun _ => 0))))] := hD
  refine lv_aload_n hx hb d_Mo_init_58 rfl (lv_at hl 0 rfl) ?_
  refine lv_sipush (v := iZ (1600)) hx hb d_Mo_init_59 (by decide) ?_
  refine va_newa (atype := .int) (N' := 1600) (a0 := (1600, .inl (fun _ => 0))) (ty := .int) hx hb (hts _ kw_296_) rfl hK hP hD hS hA (fun _ => rfl) (by decide) (by decide) (by decide) (Nat.le_of_ble_eq_true rfl) (Nat.le_of_ble_eq_true rfl) d_Mo_init_62 (fun q62 cA62 H hK hP hD hS => ?_)
  refine W.widen (k := 7) (n := 7528) (by decide) (by decide) ?_
  have hP : va_P D classes [(h0, .inr (5, [.int (iZ (0)), .ref q8, .ref q17, .ref q26, .ref q35, .ref q44, .ref q53, .null, .int (iZ (0)), .int (iZ (0)), .int (iZ (0)), .long (lN (0)), .int (iZ (0)), .int (iZ (0)), .long (lN (0)), .int (iZ (0)), .long (lN (0)), .int (iZ (0))])), (q8, .inl (cA8, 156, .inl ((fun _ => 0)))), (q17, .inl (cA17, 156, .inl ((fun _ => 0)))), (q26, .inl (cA26, 1404, .inl ((fun _ => 0)))), (q35, .inl (cA35, 1404, .inl ((fun _ => 0)))), (q44, .inl (cA44, 1404, .inl ((fun _ => 0)))), (q53, .inl (cA53, 1404, .inl ((fun _ => 0)))), (q62, .inl (cA62, 1600, .inl ((fun _ => 0))))] H := hP
  have hD : va_D A [(h0, .inr (5, [.int (iZ (0)), .ref q8, .ref q17, .ref q26, .ref q35, .ref q44, .ref q53, .null, .int (iZ (0)), .int (iZ (0)), .int (iZ (0)), .long (lN (0)), .int (iZ (0)), .int (iZ (0)), .long (lN (0)), .int (iZ (0)), .long (lN (0)), .int (iZ (0))])), (q8, .inl (cA8, 156, .inl ((fun _ => 0)))), (q17, .inl (cA17, 156, .inl ((fun _ => 0)))), (q26, .inl (cA26, 1404, .inl ((fun _ => 0)))), (q35, .inl (cA35, 1404, .inl ((fun _ => 0)))), (q44, .inl (cA44, 1404, .inl ((fun _ => 0)))), (q53, .inl (cA53, 1404, .inl ((fun _ => 0)))), (q62, .inl (cA62, 1600, .inl ((fun _ => 0))))] := hD
  have hK : va_K D classes [(cA8, .int), (cA17, .int), (cA26, .int), (cA35, .int), (cA44, .int), (cA53, .int), (cA62, .int)] s := hK
  refine va_putF (D := D) (ci := 5) (v := .ref q62) (ty := .array .int) (C := R_Mo) (T := F_Mo) (N := 18) hx hb hts i_Mo t_Mo t_Mo_ok n_Mo hown hK hP hD hS 0 rfl rfl 7 (by decide) (hts _ kw_303_) (fun _ h9 => h9) rfl hin rfl (by decide +kernel) rfl rfl (Nat.le_of_ble_eq_true rfl) d_Mo_init_64 (fun H locs hP hD hS => ?_)
  have hP : va_P D classes [(h0, .inr (5, [.int (iZ (0)), .ref q8, .ref q17, .ref q26, .ref q35, .ref q44, .ref q53, .ref q62, .int (iZ (0)), .int (iZ (0)), .int (iZ (0)), .long (lN (0)), .int (iZ (0)), .int (iZ (0)), .long (lN (0)), .int (iZ (0)), .long (lN (0)), .int (iZ (0))])), (q8, .inl (cA8, 156, .inl ((fun _ => 0)))), (q17, .inl (cA17, 156, .inl ((fun _ => 0)))), (q26, .inl (cA26, 1404, .inl ((fun _ => 0)))), (q35, .inl (cA35, 1404, .inl ((fun _ => 0)))), (q44, .inl (cA44, 1404, .inl ((fun _ => 0)))), (q53, .inl (cA53, 1404, .inl ((fun _ => 0)))), (q62, .inl (cA62, 1600, .inl ((fun _ => 0))))] H := hP
  have hD : va_D A [(h0, .inr (5, [.int (iZ (0)), .ref q8, .ref q17, .ref q26, .ref q35, .ref q44, .ref q53, .ref q62, .int (iZ (0)), .int (iZ (0)), .int (iZ (0)), .long (lN (0)), .int (iZ (0)), .int (iZ (0)), .long (lN (0)), .int (iZ (0)), .long (lN (0)), .int (iZ (0))])), (q8, .inl (cA8, 156, .inl ((fun _ => 0)))), (q17, .inl (cA17, 156, .inl ((fun _ => 0)))), (q26, .inl (cA26, 1404, .inl ((fun _ => 0)))), (q35, .inl (cA35, 1404, .inl ((fun _ => 0)))), (q44, .inl (cA44, 1404, .inl ((fun _ => 0)))), (q53, .inl (cA53, 1404, .inl ((fun _ => 0)))), (q62, .inl (cA62, 1600, .inl ((fun _ => 0))))] := hD
  exact ew_v (q8, q17, q26, q35, q44, q53, q62, cA8, cA17, cA26, cA35, cA44, cA53, cA62) hx hb hr hlocks d_Mo_init_67 (trivial) (hP.sub (ws' := [(h0, .inr (5, [.int (iZ (0)), .ref q8, .ref q17, .ref q26, .ref q35, .ref q44, .ref q53, .ref q62, .int (iZ (((([] : List Nat).length : Nat) : Int))), .int (bZ (false = true)), .int (iZ (((0 : Nat) : Int))), .long (lN (0)), .int (iZ (((0 : Nat) : Int))), .int (iZ (((0 : Nat) : Int))), .long (lN (0)), .int (iZ (0)), .long (lN (0)), .int (iZ (0))])), (q8, .inl (cA8, 156, .inl ((fun _ => 0)))), (q17, .inl (cA17, 156, .inl ((fun _ => 0)))), (q26, .inl (cA26, 1404, .inl ((fun _ => 0)))), (q35, .inl (cA35, 1404, .inl ((fun _ => 0)))), (q44, .inl (cA44, 1404, .inl ((fun _ => 0)))), (q53, .inl (cA53, 1404, .inl ((fun _ => 0)))), (q62, .inl (cA62, 1600, .inl ((fun _ => 0))))]) [0, 1, 2, 3, 4, 5, 6, 7] rfl) (hD.sub (ws' := [(h0, .inr (5, [.int (iZ (0)), .ref q8, .ref q17, .ref q26, .ref q35, .ref q44, .ref q53, .ref q62, .int (iZ (((([] : List Nat).length : Nat) : Int))), .int (bZ (false = true)), .int (iZ (((0 : Nat) : Int))), .long (lN (0)), .int (iZ (((0 : Nat) : Int))), .int (iZ (((0 : Nat) : Int))), .long (lN (0)), .int (iZ (0)), .long (lN (0)), .int (iZ (0))])), (q8, .inl (cA8, 156, .inl ((fun _ => 0)))), (q17, .inl (cA17, 156, .inl ((fun _ => 0)))), (q26, .inl (cA26, 1404, .inl ((fun _ => 0)))), (q35, .inl (cA35, 1404, .inl ((fun _ => 0)))), (q44, .inl (cA44, 1404, .inl ((fun _ => 0)))), (q53, .inl (cA53, 1404, .inl ((fun _ => 0)))), (q62, .inl (cA62, 1600, .inl ((fun _ => 0))))]) [0, 1, 2, 3, 4, 5, 6, 7] (by decide) rfl) (hK.sub (tys' := [(cA8, .int), (cA17, .int), (cA26, .int), (cA35, .int), (cA44, .int), (cA53, .int), (cA62, .int)]) [0, 1, 2, 3, 4, 5, 6] rfl) hS (Nat.le_of_ble_eq_true rfl) (Nat.le_of_ble_eq_true rfl)
abbrev Qc_Mo_thrown (D : va_G) (h0 : Nat) (th : Int) (au : Nat) (al : Nat) (av : Nat) (ao : Nat) (ah : Nat) (ar : Nat) (ap : Nat) (t : List Nat) (ng : Bool) (me : Nat) (mf : Nat) (mb : Nat) (mm : Nat) (ms : Nat) (mt : Int) (mq : Nat) (mz : Int) (A : Nat → Prop) : Array Value → State → Outcome → State → Prop := vp_Si (fun r : Int32 => r = iZ (th))
set_option maxHeartbeats 4000000 in
set_option maxRecDepth 100000 in
theorem c_Mo_thrown (l : Launch) (D : va_G) (Z : Nat → Nat) (hz9 : Nat) (h0 : Nat) (th : Int) (au : Nat) (al : Nat) (av : Nat) (ao : Nat) (ah : Nat) (ar : Nat) (ap : Nat) (t : List Nat) (ng : Bool) (me : Nat) (mf : Nat) (mb : Nat) (mm : Nat) (ms : Nat) (mt : Int) (mq : Nat) (mz : Int)  : Met l y_Mo_thrown (.code y_Mo_thrown b_Mo_thrown 1 (some .int) :: gT) ({ frames := 0, cells := 0, slots := 0, locals := 0 } : Room) (va_Pc [.ref h0] (cpre D Z [(h0, .inr (5, [.int (iZ (th)), .ref au, .ref al, .ref av, .ref ao, .ref ah, .ref ar, .ref ap, .int (iZ ((((t).length : Nat) : Int))), .int (bZ (ng = true)), .int (iZ (((me : Nat) : Int))), .long (lN (mf)), .int (iZ (((mb : Nat) : Int))), .int (iZ (((mm : Nat) : Int))), .long (lN (ms)), .int (iZ (mt)), .long (lN (mq)), .int (iZ (mz))]))] [] hz9)) (Qc_Mo_thrown D h0 th au al av ao ah ar ap t ng me mf mb mm ms mt mq mz (va_A [(h0, .inr (5, [.int (iZ (th)), .ref au, .ref al, .ref av, .ref ao, .ref ah, .ref ar, .ref ap, .int (iZ ((((t).length : Nat) : Int))), .int (bZ (ng = true)), .int (iZ (((me : Nat) : Int))), .long (lN (mf)), .int (iZ (((mb : Nat) : Int))), .int (iZ (((mm : Nat) : Int))), .long (lN (ms)), .int (iZ (mt)), .long (lN (mq)), .int (iZ (mz))]))] hz9)) 0 0 (fun _ => False) := by
  refine met_go (Qf := Qc_Mo_thrown D h0 th au al av ao ah ar ap t ng me mf mb mm ms mt mq mz) (ff := fun _ _ => False) (by decide) ?_
  intro p e s m below meth c A C0 hin hsz9 hA hE hK hP hD
  obtain ⟨hx, hb, hml, hown, hts, hr, hlocks⟩ := id C0
  have hS : va_S A s.heap s.heap [] := va_S.rf
  have hl := lv_entry [.ref h0] (n := 1) (Nat.le_of_ble_eq_true rfl)
  rw [lg_entry_eq]
  generalize (lg_sl [.ref h0] ++ List.replicate (1 - (lg_sl [.ref h0]).length) Slot.unset).toArray = ls at hl ⊢
  have hl : lv_has ls 1 [(0, .ref h0)] := hl
  refine lv_aload_n hx hb d_Mo_thrown_0 rfl (lv_at hl 0 rfl) ?_
  refine va_get (D := D) (ci := 5) (v := .int (iZ (th))) (C := R_Mo) (T := F_Mo) (N := 18) hx hb hts i_Mo hown hK hP 0 rfl rfl 0 (by decide) (hts _ kw_304_) (fun _ h9 => h9) rfl d_Mo_thrown_1 ?_
  exact er_i hx hb hr hlocks d_Mo_thrown_4 (show iZ (th) = iZ (th) from rfl)
abbrev Qc_Mo_isWrong (D : va_G) (b : Nat) (nw : Bool) (A : Nat → Prop) : Array Value → State → Outcome → State → Prop := vp_Si (fun r : Int32 => r = bZ (nw = true ∧ ¬ b < 4294967296))
set_option maxHeartbeats 4000000 in
set_option maxRecDepth 100000 in
theorem c_Mo_isWrong (l : Launch) (D : va_G) (Z : Nat → Nat) (hz9 : Nat) (b : Nat) (nw : Bool) (hb9 : b < 18446744073709551616) : Met l y_Mo_isWrong (.code y_Mo_isWrong b_Mo_isWrong 3 (some .boolean) :: gT) ({ frames := 0, cells := 0, slots := 0, locals := 0 } : Room) (va_Pc [.long (lN (b)), .int (bZ (nw = true))] (cpre D Z [] [] hz9)) (Qc_Mo_isWrong D b nw (va_A [] hz9)) 0 0 (fun _ => False) := by
  refine met_go (Qf := Qc_Mo_isWrong D b nw) (ff := fun _ _ => False) (by decide) ?_
  intro p e s m below meth c A C0 hin hsz9 hA hE hK hP hD
  obtain ⟨hx, hb, hml, hown, hts, hr, hlocks⟩ := id C0
  have hS : va_S A s.heap s.heap [] := va_S.rf
  have hl := lv_entry [.long (lN (b)), .int (bZ (nw = true))] (n := 3) (Nat.le_of_ble_eq_true rfl)
  rw [lg_entry_eq]
  generalize (lg_sl [.long (lN (b)), .int (bZ (nw = true))] ++ List.replicate (3 - (lg_sl [.long (lN (b)), .int (bZ (nw = true))]).length) Slot.unset).toArray = ls at hl ⊢
  have hl : lv_has ls 3 [(0, .long (lN (b))), (2, .int (bZ (nw = true)))] := hl
  refine lv_iload_n hx hb d_Mo_isWrong_0 rfl (lv_at hl 1 rfl) ?_
  refine bv_if_eq (tgt := 17) hx hb d_Mo_isWrong_1 (by decide) (fun c1 => ?_) (fun c1 => ?_)
  · refine lv_iconst (v := iZ (0)) hx hb d_Mo_isWrong_17 rfl ?_
    exact er_z hx hb hr hlocks (by decide) d_Mo_isWrong_18 (show iZ (0) = bZ (nw = true ∧ ¬ b < 4294967296) from by first | exact (bZ_t ⟨by assumption, by omega⟩).symm | exact (bZ_f (by omega)).symm | exact (bZ_f (fun q => absurd q.1 (by assumption))).symm)
  · refine lv_lload_n hx hb d_Mo_isWrong_4 rfl (lv_at hl 0 rfl) ?_
    refine lv_bipush (v := iZ (32)) hx hb d_Mo_isWrong_5 (by decide) ?_
    refine nv_lushr (k := 32) hx hb d_Mo_isWrong_7 (rfl) (by omega) (by omega) ?_
    refine lv_lconst (v := lN 0) hx hb d_Mo_isWrong_8 rfl ?_
    refine nv_lcmp_eq (tgt := 17) hx hb d_Mo_isWrong_9 d_Mo_isWrong_10 (by decide) (by omega) (by decide) (fun c9 => ?_) (fun c9 => ?_)
    · refine lv_iconst (v := iZ (0)) hx hb d_Mo_isWrong_17 rfl ?_
      exact er_z hx hb hr hlocks (by decide) d_Mo_isWrong_18 (show iZ (0) = bZ (nw = true ∧ ¬ b < 4294967296) from by first | exact (bZ_t ⟨by assumption, by omega⟩).symm | exact (bZ_f (by omega)).symm | exact (bZ_f (fun q => absurd q.1 (by assumption))).symm)
    · refine lv_iconst (v := iZ (1)) hx hb d_Mo_isWrong_13 rfl ?_
      refine lv_goto (tgt := 18) hx hb d_Mo_isWrong_14 (by decide) ?_
      exact er_z hx hb hr hlocks (by decide) d_Mo_isWrong_18 (show iZ (1) = bZ (nw = true ∧ ¬ b < 4294967296) from by first | exact (bZ_t ⟨by assumption, by omega⟩).symm | exact (bZ_f (by omega)).symm | exact (bZ_f (fun q => absurd q.1 (by assumption))).symm)
