theorem kw_406_ : Cond.classLink R_FW 125 "java/lang/IllegalArgumentException" ∈ gT := gT_in 192 (by decide +kernel) (by decide +kernel)
theorem kw_407_ : Cond.initialized "java/lang/IllegalArgumentException" ∈ gT := gT_in 10 (by decide +kernel) (by decide +kernel)
theorem kw_408_ : Cond.classLink R_FW 134 "java/lang/ArithmeticException" ∈ gT := gT_in 523 (by decide +kernel) (by decide +kernel)
theorem kw_409_ : Cond.initialized "java/lang/ArithmeticException" ∈ gT := gT_in 16 (by decide +kernel) (by decide +kernel)
set_option maxHeartbeats 4000000 in
set_option maxRecDepth 100000 in
theorem c_FW_refuseHighBits_x (l : Launch) (hst : l.stackTraces = false) (D : va_G) (Z : Nat → Nat) (hz9 : Nat) (b : Nat) (nw : Bool) (hb9 : b < 18446744073709551616) (hwr : nw = true ∧ ¬ b < 4294967296) : vx_Met l y_FW_refuseHighBits (.code y_FW_refuseHighBits b_FW_refuseHighBits 3 none :: gT) ({ frames := 6, cells := 1, slots := 6, locals := 82 } : Room) (va_Pc [.long (lN (b)), .int (bZ (nw = true))] (cpre D Z [] [] hz9)) nQv (xX "java/lang/IllegalArgumentException") 1 6 (fun _ => False) := by
  refine metx_go (by decide) ?_
  intro p e s m below meth c A C0 hTb hsz9 hA hE hK hP hD
  obtain ⟨hx, hb, hml, hown, hts, hr, hlocks⟩ := id C0
  have hS : va_S A s.heap s.heap [] := va_S.rf
  have hl := lv_entry [.long (lN (b)), .int (bZ (nw = true))] (n := 3) (Nat.le_of_ble_eq_true rfl)
  rw [lg_entry_eq]
  generalize (lg_sl [.long (lN (b)), .int (bZ (nw = true))] ++ List.replicate (3 - (lg_sl [.long (lN (b)), .int (bZ (nw = true))]).length) Slot.unset).toArray = ls at hl ⊢
  have hl : lv_has ls 3 [(0, .long (lN (b))), (2, .int (bZ (nw = true)))] := hl
  refine lv_iload_n hx hb d_FW_refuseHighBits_0 rfl (lv_at hl 1 rfl) ?_
  refine bv_if_eq (tgt := 23) hx hb d_FW_refuseHighBits_1 (by decide) (fun c1 => absurd hwr.1 c1) (fun c1 => ?_)
  refine lv_lload_n hx hb d_FW_refuseHighBits_4 rfl (lv_at hl 0 rfl) ?_
  refine lv_bipush (v := iZ (32)) hx hb d_FW_refuseHighBits_5 (by decide) ?_
  refine nv_lushr (k := 32) hx hb d_FW_refuseHighBits_7 (rfl) (by omega) (by omega) ?_
  refine lv_lconst (v := lN 0) hx hb d_FW_refuseHighBits_8 rfl ?_
  refine nv_lcmp_eq (tgt := 23) hx hb d_FW_refuseHighBits_9 d_FW_refuseHighBits_10 (by decide) (by omega) (by decide) (fun c9 => absurd c9 (by have := hwr.2; omega)) (fun c9 => ?_)
  exact thr_I C0 hst hTb hE 0 (by decide) kw_406_ kw_407_ hl.1 d_FW_refuseHighBits_13 d_FW_refuseHighBits_16 d_FW_refuseHighBits_17 d_FW_refuseHighBits_19 d_FW_refuseHighBits_22 (Nat.le_of_ble_eq_true rfl) (Nat.le_of_ble_eq_true rfl) (Nat.le_of_ble_eq_true rfl) (Nat.le_of_ble_eq_true rfl)
set_option maxHeartbeats 4000000 in
set_option maxRecDepth 100000 in
theorem c_FW_refuseOutside_x (l : Launch) (hst : l.stackTraces = false) (D : va_G) (Z : Nat → Nat) (hz9 : Nat) (z1 : Int) (z2 : Int) (z3 : Int) (hno : z1 < z2 ∨ z3 < z1) (hr1 : -2147483648 ≤ z1 ∧ z1 < 2147483648) (hrg : -2147483648 ≤ z2 ∧ z2 < 2147483648 ∧ -2147483648 ≤ z3 ∧ z3 < 2147483648) : vx_Met l y_FW_refuseOutside (.code y_FW_refuseOutside b_FW_refuseOutside 3 none :: gT) ({ frames := 6, cells := 1, slots := 6, locals := 82 } : Room) (va_Pc [.int (iZ (z1)), .int (iZ (z2)), .int (iZ (z3))] (cpre D Z [] [] hz9)) nQv (xX "java/lang/IllegalArgumentException") 1 6 (fun _ => False) := by
  refine metx_go (by decide) ?_
  intro p e s m below meth c A C0 hTb hsz9 hA hE hK hP hD
  obtain ⟨hx, hb, hml, hown, hts, hr, hlocks⟩ := id C0
  have hS : va_S A s.heap s.heap [] := va_S.rf
  have hl := lv_entry [.int (iZ (z1)), .int (iZ (z2)), .int (iZ (z3))] (n := 3) (Nat.le_of_ble_eq_true rfl)
  rw [lg_entry_eq]
  generalize (lg_sl [.int (iZ (z1)), .int (iZ (z2)), .int (iZ (z3))] ++ List.replicate (3 - (lg_sl [.int (iZ (z1)), .int (iZ (z2)), .int (iZ (z3))]).length) Slot.unset).toArray = ls at hl ⊢
  have hl : lv_has ls 3 [(0, .int (iZ (z1))), (1, .int (iZ (z2))), (2, .int (iZ (z3)))] := hl
  refine lv_iload_n hx hb d_FW_refuseOutside_0 rfl (lv_at hl 0 rfl) ?_
  refine lv_iload_n hx hb d_FW_refuseOutside_1 rfl (lv_at hl 1 rfl) ?_
  refine zv_icmp_lt (tgt := 10) hx hb d_FW_refuseOutside_2 (by decide) (by omega) (by omega) (fun c2 => ?_) (fun c2 => ?_)
  · exact thr_I C0 hst hTb hE 1 (by decide) kw_406_ kw_407_ hl.1 d_FW_refuseOutside_10 d_FW_refuseOutside_13 d_FW_refuseOutside_14 d_FW_refuseOutside_16 d_FW_refuseOutside_19 (Nat.le_of_ble_eq_true rfl) (Nat.le_of_ble_eq_true rfl) (Nat.le_of_ble_eq_true rfl) (Nat.le_of_ble_eq_true rfl)
  · refine lv_iload_n hx hb d_FW_refuseOutside_5 rfl (lv_at hl 0 rfl) ?_
    refine lv_iload_n hx hb d_FW_refuseOutside_6 rfl (lv_at hl 2 rfl) ?_
    refine zv_icmp_le (tgt := 20) hx hb d_FW_refuseOutside_7 (by decide) (by omega) (by omega) (fun c7 => absurd c7 (by omega)) (fun c7 => ?_)
    exact thr_I C0 hst hTb hE 1 (by decide) kw_406_ kw_407_ hl.1 d_FW_refuseOutside_10 d_FW_refuseOutside_13 d_FW_refuseOutside_14 d_FW_refuseOutside_16 d_FW_refuseOutside_19 (Nat.le_of_ble_eq_true rfl) (Nat.le_of_ble_eq_true rfl) (Nat.le_of_ble_eq_true rfl) (Nat.le_of_ble_eq_true rfl)
set_option maxHeartbeats 4000000 in
set_option maxRecDepth 100000 in
theorem c_FW_refuseNotFinite_x (l : Launch) (hst : l.stackTraces = false) (D : va_G) (Z : Nat → Nat) (hz9 : Nat) (b : Nat) (nw : Bool) (hb9 : b < 18446744073709551616) (hnf : ¬ fSz b nw < fI nw) : vx_Met l y_FW_refuseNotFinite (.code y_FW_refuseNotFinite b_FW_refuseNotFinite 3 none :: gT) ({ frames := 6, cells := 1, slots := 6, locals := 82 } : Room) (va_Pc [.long (lN (b)), .int (bZ (nw = true))] (cpre D Z [] [] hz9)) nQv (xX "java/lang/ArithmeticException") 1 6 (fun _ => False) := by
  refine metx_go (by decide) ?_
  intro p e s m below meth c A C0 hTb hsz9 hA hE hK hP hD
  obtain ⟨hx, hb, hml, hown, hts, hr, hlocks⟩ := id C0
  have hS : va_S A s.heap s.heap [] := va_S.rf
  have hl := lv_entry [.long (lN (b)), .int (bZ (nw = true))] (n := 3) (Nat.le_of_ble_eq_true rfl)
  rw [lg_entry_eq]
  generalize (lg_sl [.long (lN (b)), .int (bZ (nw = true))] ++ List.replicate (3 - (lg_sl [.long (lN (b)), .int (bZ (nw = true))]).length) Slot.unset).toArray = ls at hl ⊢
  have hl : lv_has ls 3 [(0, .long (lN (b))), (2, .int (bZ (nw = true)))] := hl
  refine lv_lload_n hx hb d_FW_refuseNotFinite_0 rfl (lv_at hl 0 rfl) ?_
  refine lv_iload_n hx hb d_FW_refuseNotFinite_1 rfl (lv_at hl 1 rfl) ?_
  refine kg_i (kr_S (As := [.long (lN (b)), .int (bZ (nw = true))]) (rest := []) C0 (c_FW_isFinite l D Z _ b nw (by assumption)) q_y_FW_isFinite kw_230_ kw_229_ kw_3_ hd_y_FW_isFinite rfl rfl ⟨Nat.le_of_ble_eq_true rfl, Nat.le_of_ble_eq_true rfl⟩ (hP.sub (ws' := []) [] rfl) (hD.sub (ws' := []) [] (by decide) rfl) (hK.sub (tys' := []) [] rfl) hE hS (va_free (wc := []) hD hS hA [] rfl) rfl hl.1 rfl (Nat.le_of_ble_eq_true rfl) d_FW_refuseNotFinite_2 ⟨Nat.le_of_ble_eq_true rfl, Nat.le_of_ble_eq_true rfl⟩) (fun r hr1 => ?_)
  obtain rfl : r = bZ (fSz b nw < fI nw) := hr1
  refine bv_if_ne (tgt := 18) hx hb d_FW_refuseNotFinite_5 (by decide) (fun c5 => absurd c5 (by omega)) (fun c5 => ?_)
  exact thr_A C0 hst hTb hE 2 (by decide) kw_408_ kw_409_ hl.1 d_FW_refuseNotFinite_8 d_FW_refuseNotFinite_11 d_FW_refuseNotFinite_12 d_FW_refuseNotFinite_14 d_FW_refuseNotFinite_17 (Nat.le_of_ble_eq_true rfl) (Nat.le_of_ble_eq_true rfl) (Nat.le_of_ble_eq_true rfl) (Nat.le_of_ble_eq_true rfl)
