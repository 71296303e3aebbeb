set_option maxHeartbeats 4000000 in
set_option maxRecDepth 100000 in
theorem c_FW_print_x (l : Launch) (hst : l.stackTraces = false) (D : va_G) (Z : Nat → Nat) (hz9 : Nat) (h0 : Nat) (qsh : Nat) (qex : Nat) (qso : Nat) (b : Nat) (nw : Bool) (hb9 : b < 18446744073709551616) (hwr : nw = true ∧ ¬ b < 4294967296) : vx_Met l y_FW_print (.code y_FW_print b_FW_print 4 (some .int) :: gT) ({ frames := 7, cells := 1, slots := 6, locals := 104 } : Room) (va_Pc [.ref h0, .long (lN (b)), .int (bZ (nw = true))] (cpre D Z [(h0, .inr (0, [.ref qsh, .ref qex, .ref qso]))] [] hz9)) nQi (xX "java/lang/IllegalArgumentException") 1 6 (fun _ => False) := by
  refine metx_go (by decide) ?_
  intro p e s m below meth c A C0 hTb hsz9 hA hE hK hP hD
  obtain ⟨hx, hb, hml, hown, hts, hr, hlocks⟩ := id C0
  have hS : va_S A s.heap s.heap [] := va_S.rf
  have hl := lv_entry [.ref h0, .long (lN (b)), .int (bZ (nw = true))] (n := 4) (Nat.le_of_ble_eq_true rfl)
  rw [lg_entry_eq]
  generalize (lg_sl [.ref h0, .long (lN (b)), .int (bZ (nw = true))] ++ List.replicate (4 - (lg_sl [.ref h0, .long (lN (b)), .int (bZ (nw = true))]).length) Slot.unset).toArray = ls at hl ⊢
  have hl : lv_has ls 4 [(0, .ref h0), (1, .long (lN (b))), (3, .int (bZ (nw = true)))] := hl
  refine lv_lload_n hx hb d_FW_print_0 rfl (lv_at hl 1 rfl) ?_
  refine lv_iload_n hx hb d_FW_print_1 rfl (lv_at hl 2 rfl) ?_
  exact kx_out (kx_S (As := [.long (lN (b)), .int (bZ (nw = true))]) (rest := []) C0 (c_FW_refuseHighBits_x l hst D Z _ b nw (by assumption) (by assumption)) q_y_FW_refuseHighBits kw_256_ kw_255_ kw_3_ hd_y_FW_refuseHighBits rfl rfl ⟨Nat.le_of_ble_eq_true rfl, Nat.le_of_ble_eq_true rfl⟩ (hP.sub (ws' := []) [] rfl) (hD.sub (ws' := []) [] (by decide) rfl) (hK.sub (tys' := []) [] rfl) hE hS (va_free (wc := []) hD hS hA [] rfl) rfl hl.1 rfl (Nat.le_of_ble_eq_true rfl) d_FW_print_2 ⟨Nat.le_of_ble_eq_true rfl, Nat.le_of_ble_eq_true rfl⟩) hTb hlocks
set_option maxHeartbeats 4000000 in
set_option maxRecDepth 100000 in
theorem c_FW_hexadecimal_x (l : Launch) (hst : l.stackTraces = false) (D : va_G) (Z : Nat → Nat) (hz9 : Nat) (h0 : Nat) (qsh : Nat) (qex : Nat) (qso : Nat) (b : Nat) (nw : Bool) (hb9 : b < 18446744073709551616) (hwr : nw = true ∧ ¬ b < 4294967296) : vx_Met l y_FW_hexadecimal (.code y_FW_hexadecimal b_FW_hexadecimal 4 (some .int) :: gT) ({ frames := 7, cells := 1, slots := 6, locals := 104 } : Room) (va_Pc [.ref h0, .long (lN (b)), .int (bZ (nw = true))] (cpre D Z [(h0, .inr (0, [.ref qsh, .ref qex, .ref qso]))] [] hz9)) nQi (xX "java/lang/IllegalArgumentException") 1 6 (fun _ => False) := by
  refine metx_go (by decide) ?_
  intro p e s m below meth c A C0 hTb hsz9 hA hE hK hP hD
  obtain ⟨hx, hb, hml, hown, hts, hr, hlocks⟩ := id C0
  have hS : va_S A s.heap s.heap [] := va_S.rf
  have hl := lv_entry [.ref h0, .long (lN (b)), .int (bZ (nw = true))] (n := 4) (Nat.le_of_ble_eq_true rfl)
  rw [lg_entry_eq]
  generalize (lg_sl [.ref h0, .long (lN (b)), .int (bZ (nw = true))] ++ List.replicate (4 - (lg_sl [.ref h0, .long (lN (b)), .int (bZ (nw = true))]).length) Slot.unset).toArray = ls at hl ⊢
  have hl : lv_has ls 4 [(0, .ref h0), (1, .long (lN (b))), (3, .int (bZ (nw = true)))] := hl
  refine lv_lload_n hx hb d_FW_hexadecimal_0 rfl (lv_at hl 1 rfl) ?_
  refine lv_iload_n hx hb d_FW_hexadecimal_1 rfl (lv_at hl 2 rfl) ?_
  exact kx_out (kx_S (As := [.long (lN (b)), .int (bZ (nw = true))]) (rest := []) C0 (c_FW_refuseHighBits_x l hst D Z _ b nw (by assumption) (by assumption)) q_y_FW_refuseHighBits kw_256_ kw_255_ kw_3_ hd_y_FW_refuseHighBits rfl rfl ⟨Nat.le_of_ble_eq_true rfl, Nat.le_of_ble_eq_true rfl⟩ (hP.sub (ws' := []) [] rfl) (hD.sub (ws' := []) [] (by decide) rfl) (hK.sub (tys' := []) [] rfl) hE hS (va_free (wc := []) hD hS hA [] rfl) rfl hl.1 rfl (Nat.le_of_ble_eq_true rfl) d_FW_hexadecimal_2 ⟨Nat.le_of_ble_eq_true rfl, Nat.le_of_ble_eq_true rfl⟩) hTb hlocks
set_option maxHeartbeats 4000000 in
set_option maxRecDepth 100000 in
theorem c_FW_fixed_x1 (l : Launch) (hst : l.stackTraces = false) (D : va_G) (Z : Nat → Nat) (hz9 : Nat) (h0 : Nat) (qsh : Nat) (qex : Nat) (qso : Nat) (b : Nat) (nw : Bool) (z1 : Int) (z2 : Int) (hb9 : b < 18446744073709551616) (hwr : nw = true ∧ ¬ b < 4294967296) (hz1 : -2147483648 ≤ z1 ∧ z1 < 2147483648) (hz2 : -2147483648 ≤ z2 ∧ z2 < 2147483648) : vx_Met l y_FW_fixed (.code y_FW_fixed b_FW_fixed 6 (some .int) :: gT) ({ frames := 7, cells := 1, slots := 6, locals := 104 } : Room) (va_Pc [.ref h0, .long (lN (b)), .int (bZ (nw = true)), .int (iZ (z1)), .int (iZ (z2))] (cpre D Z [(h0, .inr (0, [.ref qsh, .ref qex, .ref qso]))] [] hz9)) nQi (xX "java/lang/IllegalArgumentException") 1 6 (fun _ => False) := by
  refine metx_go (by decide) ?_
  intro p e s m below meth c A C0 hTb hsz9 hA hE hK hP hD
  obtain ⟨hx, hb, hml, hown, hts, hr, hlocks⟩ := id C0
  have hS : va_S A s.heap s.heap [] := va_S.rf
  have hl := lv_entry [.ref h0, .long (lN (b)), .int (bZ (nw = true)), .int (iZ (z1)), .int (iZ (z2))] (n := 6) (Nat.le_of_ble_eq_true rfl)
  rw [lg_entry_eq]
  generalize (lg_sl [.ref h0, .long (lN (b)), .int (bZ (nw = true)), .int (iZ (z1)), .int (iZ (z2))] ++ List.replicate (6 - (lg_sl [.ref h0, .long (lN (b)), .int (bZ (nw = true)), .int (iZ (z1)), .int (iZ (z2))]).length) Slot.unset).toArray = ls at hl ⊢
  have hl : lv_has ls 6 [(0, .ref h0), (1, .long (lN (b))), (3, .int (bZ (nw = true))), (4, .int (iZ (z1))), (5, .int (iZ (z2)))] := hl
  refine lv_lload_n hx hb d_FW_fixed_0 rfl (lv_at hl 1 rfl) ?_
  refine lv_iload_n hx hb d_FW_fixed_1 rfl (lv_at hl 2 rfl) ?_
  exact kx_out (kx_S (As := [.long (lN (b)), .int (bZ (nw = true))]) (rest := []) C0 (c_FW_refuseHighBits_x l hst D Z _ b nw (by assumption) (by assumption)) q_y_FW_refuseHighBits kw_256_ kw_255_ kw_3_ hd_y_FW_refuseHighBits rfl rfl ⟨Nat.le_of_ble_eq_true rfl, Nat.le_of_ble_eq_true rfl⟩ (hP.sub (ws' := []) [] rfl) (hD.sub (ws' := []) [] (by decide) rfl) (hK.sub (tys' := []) [] rfl) hE hS (va_free (wc := []) hD hS hA [] rfl) rfl hl.1 rfl (Nat.le_of_ble_eq_true rfl) d_FW_fixed_2 ⟨Nat.le_of_ble_eq_true rfl, Nat.le_of_ble_eq_true rfl⟩) hTb hlocks
set_option maxHeartbeats 4000000 in
set_option maxRecDepth 100000 in
theorem c_FW_fixed_x2 (l : Launch) (hst : l.stackTraces = false) (D : va_G) (Z : Nat → Nat) (hz9 : Nat) (h0 : Nat) (qsh : Nat) (qex : Nat) (qso : Nat) (b : Nat) (nw : Bool) (z1 : Int) (z2 : Int) (hb9 : b < 18446744073709551616) (hok : nw = true → b < 4294967296) (hz1 : -2147483648 ≤ z1 ∧ z1 < 2147483648) (hz2 : -2147483648 ≤ z2 ∧ z2 < 2147483648) (hno : z1 < 0 ∨ 1100 < z1) : vx_Met l y_FW_fixed (.code y_FW_fixed b_FW_fixed 6 (some .int) :: gT) ({ frames := 7, cells := 1, slots := 6, locals := 104 } : Room) (va_Pc [.ref h0, .long (lN (b)), .int (bZ (nw = true)), .int (iZ (z1)), .int (iZ (z2))] (cpre D Z [(h0, .inr (0, [.ref qsh, .ref qex, .ref qso]))] [] hz9)) nQi (xX "java/lang/IllegalArgumentException") 1 6 (fun _ => False) := by
  refine metx_go (by decide) ?_
  intro p e s m below meth c A C0 hTb hsz9 hA hE hK hP hD
  obtain ⟨hx, hb, hml, hown, hts, hr, hlocks⟩ := id C0
  have hS : va_S A s.heap s.heap [] := va_S.rf
  have hl := lv_entry [.ref h0, .long (lN (b)), .int (bZ (nw = true)), .int (iZ (z1)), .int (iZ (z2))] (n := 6) (Nat.le_of_ble_eq_true rfl)
  rw [lg_entry_eq]
  generalize (lg_sl [.ref h0, .long (lN (b)), .int (bZ (nw = true)), .int (iZ (z1)), .int (iZ (z2))] ++ List.replicate (6 - (lg_sl [.ref h0, .long (lN (b)), .int (bZ (nw = true)), .int (iZ (z1)), .int (iZ (z2))]).length) Slot.unset).toArray = ls at hl ⊢
  have hl : lv_has ls 6 [(0, .ref h0), (1, .long (lN (b))), (3, .int (bZ (nw = true))), (4, .int (iZ (z1))), (5, .int (iZ (z2)))] := hl
  refine lv_lload_n hx hb d_FW_fixed_0 rfl (lv_at hl 1 rfl) ?_
  refine lv_iload_n hx hb d_FW_fixed_1 rfl (lv_at hl 2 rfl) ?_
  refine kg_v (kr_S (As := [.long (lN (b)), .int (bZ (nw = true))]) (rest := []) C0 (c_FW_refuseHighBits l D Z _ b nw (by assumption) (by assumption)) q_y_FW_refuseHighBits kw_256_ kw_255_ kw_3_ hd_y_FW_refuseHighBits rfl rfl ⟨Nat.le_of_ble_eq_true rfl, Nat.le_of_ble_eq_true rfl⟩ (hP.sub (ws' := []) [] rfl) (hD.sub (ws' := []) [] (by decide) rfl) (hK.sub (tys' := []) [] rfl) hE hS (va_free (wc := []) hD hS hA [] rfl) rfl hl.1 rfl (Nat.le_of_ble_eq_true rfl) d_FW_fixed_2 ⟨Nat.le_of_ble_eq_true rfl, Nat.le_of_ble_eq_true rfl⟩) ?_
  refine lv_iload hx hb d_FW_fixed_5 (lv_at hl 3 rfl) ?_
  refine lv_iconst (v := iZ (0)) hx hb d_FW_fixed_7 rfl ?_
  refine lv_sipush (v := iZ (1100)) hx hb d_FW_fixed_8 (by decide) ?_
  exact kx_out (kx_S (As := [.int (iZ (z1)), .int (iZ (0)), .int (iZ (1100))]) (rest := []) C0 (c_FW_refuseOutside_x l hst D Z _ z1 0 1100 (by omega) (hz1) (by omega)) q_y_FW_refuseOutside kw_287_ kw_286_ kw_3_ hd_y_FW_refuseOutside rfl rfl ⟨Nat.le_of_ble_eq_true rfl, Nat.le_of_ble_eq_true rfl⟩ (hP.sub (ws' := []) [] rfl) (hD.sub (ws' := []) [] (by decide) rfl) (hK.sub (tys' := []) [] rfl) hE hS (va_free (wc := []) hD hS hA [] rfl) rfl hl.1 rfl (Nat.le_of_ble_eq_true rfl) d_FW_fixed_11 ⟨Nat.le_of_ble_eq_true rfl, Nat.le_of_ble_eq_true rfl⟩) hTb hlocks
set_option maxHeartbeats 4000000 in
set_option maxRecDepth 100000 in
theorem c_FW_fixed_x3 (l : Launch) (hst : l.stackTraces = false) (D : va_G) (Z : Nat → Nat) (hz9 : Nat) (h0 : Nat) (qsh : Nat) (qex : Nat) (qso : Nat) (b : Nat) (nw : Bool) (z1 : Int) (z2 : Int) (hb9 : b < 18446744073709551616) (hok : nw = true → b < 4294967296) (hz1 : -2147483648 ≤ z1 ∧ z1 < 2147483648) (hz2 : -2147483648 ≤ z2 ∧ z2 < 2147483648) (hok1 : 0 ≤ z1 ∧ z1 ≤ 1100) (hno : z2 < 0 ∨ 3 < z2) : vx_Met l y_FW_fixed (.code y_FW_fixed b_FW_fixed 6 (some .int) :: gT) ({ frames := 7, cells := 1, slots := 6, locals := 104 } : Room) (va_Pc [.ref h0, .long (lN (b)), .int (bZ (nw = true)), .int (iZ (z1)), .int (iZ (z2))] (cpre D Z [(h0, .inr (0, [.ref qsh, .ref qex, .ref qso]))] [] hz9)) nQi (xX "java/lang/IllegalArgumentException") 1 6 (fun _ => False) := by
  refine metx_go (by decide) ?_
  intro p e s m below meth c A C0 hTb hsz9 hA hE hK hP hD
  obtain ⟨hx, hb, hml, hown, hts, hr, hlocks⟩ := id C0
  have hS : va_S A s.heap s.heap [] := va_S.rf
  have hl := lv_entry [.ref h0, .long (lN (b)), .int (bZ (nw = true)), .int (iZ (z1)), .int (iZ (z2))] (n := 6) (Nat.le_of_ble_eq_true rfl)
  rw [lg_entry_eq]
  generalize (lg_sl [.ref h0, .long (lN (b)), .int (bZ (nw = true)), .int (iZ (z1)), .int (iZ (z2))] ++ List.replicate (6 - (lg_sl [.ref h0, .long (lN (b)), .int (bZ (nw = true)), .int (iZ (z1)), .int (iZ (z2))]).length) Slot.unset).toArray = ls at hl ⊢
  have hl : lv_has ls 6 [(0, .ref h0), (1, .long (lN (b))), (3, .int (bZ (nw = true))), (4, .int (iZ (z1))), (5, .int (iZ (z2)))] := hl
  refine lv_lload_n hx hb d_FW_fixed_0 rfl (lv_at hl 1 rfl) ?_
  refine lv_iload_n hx hb d_FW_fixed_1 rfl (lv_at hl 2 rfl) ?_
  refine kg_v (kr_S (As := [.long (lN (b)), .int (bZ (nw = true))]) (rest := []) C0 (c_FW_refuseHighBits l D Z _ b nw (by assumption) (by assumption)) q_y_FW_refuseHighBits kw_256_ kw_255_ kw_3_ hd_y_FW_refuseHighBits rfl rfl ⟨Nat.le_of_ble_eq_true rfl, Nat.le_of_ble_eq_true rfl⟩ (hP.sub (ws' := []) [] rfl) (hD.sub (ws' := []) [] (by decide) rfl) (hK.sub (tys' := []) [] rfl) hE hS (va_free (wc := []) hD hS hA [] rfl) rfl hl.1 rfl (Nat.le_of_ble_eq_true rfl) d_FW_fixed_2 ⟨Nat.le_of_ble_eq_true rfl, Nat.le_of_ble_eq_true rfl⟩) ?_
  refine lv_iload hx hb d_FW_fixed_5 (lv_at hl 3 rfl) ?_
  refine lv_iconst (v := iZ (0)) hx hb d_FW_fixed_7 rfl ?_
  refine lv_sipush (v := iZ (1100)) hx hb d_FW_fixed_8 (by decide) ?_
  refine kg_v (kr_S (As := [.int (iZ (z1)), .int (iZ (0)), .int (iZ (1100))]) (rest := []) C0 (c_FW_refuseOutside l D Z _ z1 0 1100 (by omega) (by omega)) q_y_FW_refuseOutside kw_287_ kw_286_ kw_3_ hd_y_FW_refuseOutside rfl rfl ⟨Nat.le_of_ble_eq_true rfl, Nat.le_of_ble_eq_true rfl⟩ (hP.sub (ws' := []) [] rfl) (hD.sub (ws' := []) [] (by decide) rfl) (hK.sub (tys' := []) [] rfl) hE hS (va_free (wc := []) hD hS hA [] rfl) rfl hl.1 rfl (Nat.le_of_ble_eq_true rfl) d_FW_fixed_11 ⟨Nat.le_of_ble_eq_true rfl, Nat.le_of_ble_eq_true rfl⟩) ?_
  refine lv_iload hx hb d_FW_fixed_14 (lv_at hl 4 rfl) ?_
  refine lv_iconst (v := iZ (0)) hx hb d_FW_fixed_16 rfl ?_
  refine lv_iconst (v := iZ (3)) hx hb d_FW_fixed_17 rfl ?_
  exact kx_out (kx_S (As := [.int (iZ (z2)), .int (iZ (0)), .int (iZ (3))]) (rest := []) C0 (c_FW_refuseOutside_x l hst D Z _ z2 0 3 (by omega) (hz2) (by omega)) q_y_FW_refuseOutside kw_287_ kw_286_ kw_3_ hd_y_FW_refuseOutside rfl rfl ⟨Nat.le_of_ble_eq_true rfl, Nat.le_of_ble_eq_true rfl⟩ (hP.sub (ws' := []) [] rfl) (hD.sub (ws' := []) [] (by decide) rfl) (hK.sub (tys' := []) [] rfl) hE hS (va_free (wc := []) hD hS hA [] rfl) rfl hl.1 rfl (Nat.le_of_ble_eq_true rfl) d_FW_fixed_18 ⟨Nat.le_of_ble_eq_true rfl, Nat.le_of_ble_eq_true rfl⟩) hTb hlocks
set_option maxHeartbeats 4000000 in
set_option maxRecDepth 100000 in
theorem c_FW_fixed_x4 (l : Launch) (hst : l.stackTraces = false) (D : va_G) (Z : Nat → Nat) (hz9 : Nat) (h0 : Nat) (qsh : Nat) (qex : Nat) (qso : Nat) (b : Nat) (nw : Bool) (z1 : Int) (z2 : Int) (hb9 : b < 18446744073709551616) (hok : nw = true → b < 4294967296) (hz1 : -2147483648 ≤ z1 ∧ z1 < 2147483648) (hz2 : -2147483648 ≤ z2 ∧ z2 < 2147483648) (hok1 : 0 ≤ z1 ∧ z1 ≤ 1100) (hok2 : 0 ≤ z2 ∧ z2 ≤ 3) (hnf : ¬ fSz b nw < fI nw) : vx_Met l y_FW_fixed (.code y_FW_fixed b_FW_fixed 6 (some .int) :: gT) ({ frames := 7, cells := 1, slots := 6, locals := 104 } : Room) (va_Pc [.ref h0, .long (lN (b)), .int (bZ (nw = true)), .int (iZ (z1)), .int (iZ (z2))] (cpre D Z [(h0, .inr (0, [.ref qsh, .ref qex, .ref qso]))] [] hz9)) nQi (xX "java/lang/ArithmeticException") 1 6 (fun _ => False) := by
  refine metx_go (by decide) ?_
  intro p e s m below meth c A C0 hTb hsz9 hA hE hK hP hD
  obtain ⟨hx, hb, hml, hown, hts, hr, hlocks⟩ := id C0
  have hS : va_S A s.heap s.heap [] := va_S.rf
  have hl := lv_entry [.ref h0, .long (lN (b)), .int (bZ (nw = true)), .int (iZ (z1)), .int (iZ (z2))] (n := 6) (Nat.le_of_ble_eq_true rfl)
  rw [lg_entry_eq]
  generalize (lg_sl [.ref h0, .long (lN (b)), .int (bZ (nw = true)), .int (iZ (z1)), .int (iZ (z2))] ++ List.replicate (6 - (lg_sl [.ref h0, .long (lN (b)), .int (bZ (nw = true)), .int (iZ (z1)), .int (iZ (z2))]).length) Slot.unset).toArray = ls at hl ⊢
  have hl : lv_has ls 6 [(0, .ref h0), (1, .long (lN (b))), (3, .int (bZ (nw = true))), (4, .int (iZ (z1))), (5, .int (iZ (z2)))] := hl
  refine lv_lload_n hx hb d_FW_fixed_0 rfl (lv_at hl 1 rfl) ?_
  refine lv_iload_n hx hb d_FW_fixed_1 rfl (lv_at hl 2 rfl) ?_
  refine kg_v (kr_S (As := [.long (lN (b)), .int (bZ (nw = true))]) (rest := []) C0 (c_FW_refuseHighBits l D Z _ b nw (by assumption) (by assumption)) q_y_FW_refuseHighBits kw_256_ kw_255_ kw_3_ hd_y_FW_refuseHighBits rfl rfl ⟨Nat.le_of_ble_eq_true rfl, Nat.le_of_ble_eq_true rfl⟩ (hP.sub (ws' := []) [] rfl) (hD.sub (ws' := []) [] (by decide) rfl) (hK.sub (tys' := []) [] rfl) hE hS (va_free (wc := []) hD hS hA [] rfl) rfl hl.1 rfl (Nat.le_of_ble_eq_true rfl) d_FW_fixed_2 ⟨Nat.le_of_ble_eq_true rfl, Nat.le_of_ble_eq_true rfl⟩) ?_
  refine lv_iload hx hb d_FW_fixed_5 (lv_at hl 3 rfl) ?_
  refine lv_iconst (v := iZ (0)) hx hb d_FW_fixed_7 rfl ?_
  refine lv_sipush (v := iZ (1100)) hx hb d_FW_fixed_8 (by decide) ?_
  refine kg_v (kr_S (As := [.int (iZ (z1)), .int (iZ (0)), .int (iZ (1100))]) (rest := []) C0 (c_FW_refuseOutside l D Z _ z1 0 1100 (by omega) (by omega)) q_y_FW_refuseOutside kw_287_ kw_286_ kw_3_ hd_y_FW_refuseOutside rfl rfl ⟨Nat.le_of_ble_eq_true rfl, Nat.le_of_ble_eq_true rfl⟩ (hP.sub (ws' := []) [] rfl) (hD.sub (ws' := []) [] (by decide) rfl) (hK.sub (tys' := []) [] rfl) hE hS (va_free (wc := []) hD hS hA [] rfl) rfl hl.1 rfl (Nat.le_of_ble_eq_true rfl) d_FW_fixed_11 ⟨Nat.le_of_ble_eq_true rfl, Nat.le_of_ble_eq_true rfl⟩) ?_
  refine lv_iload hx hb d_FW_fixed_14 (lv_at hl 4 rfl) ?_
  refine lv_iconst (v := iZ (0)) hx hb d_FW_fixed_16 rfl ?_
  refine lv_iconst (v := iZ (3)) hx hb d_FW_fixed_17 rfl ?_
  refine kg_v (kr_S (As := [.int (iZ (z2)), .int (iZ (0)), .int (iZ (3))]) (rest := []) C0 (c_FW_refuseOutside l D Z _ z2 0 3 (by omega) (by omega)) q_y_FW_refuseOutside kw_287_ kw_286_ kw_3_ hd_y_FW_refuseOutside rfl rfl ⟨Nat.le_of_ble_eq_true rfl, Nat.le_of_ble_eq_true rfl⟩ (hP.sub (ws' := []) [] rfl) (hD.sub (ws' := []) [] (by decide) rfl) (hK.sub (tys' := []) [] rfl) hE hS (va_free (wc := []) hD hS hA [] rfl) rfl hl.1 rfl (Nat.le_of_ble_eq_true rfl) d_FW_fixed_18 ⟨Nat.le_of_ble_eq_true rfl, Nat.le_of_ble_eq_true rfl⟩) ?_
  refine lv_lload_n hx hb d_FW_fixed_21 rfl (lv_at hl 1 rfl) ?_
  refine lv_iload_n hx hb d_FW_fixed_22 rfl (lv_at hl 2 rfl) ?_
  exact kx_out (kx_S (As := [.long (lN (b)), .int (bZ (nw = true))]) (rest := []) C0 (c_FW_refuseNotFinite_x l hst D Z _ b nw (by assumption) (by assumption)) q_y_FW_refuseNotFinite kw_276_ kw_275_ kw_3_ hd_y_FW_refuseNotFinite rfl rfl ⟨Nat.le_of_ble_eq_true rfl, Nat.le_of_ble_eq_true rfl⟩ (hP.sub (ws' := []) [] rfl) (hD.sub (ws' := []) [] (by decide) rfl) (hK.sub (tys' := []) [] rfl) hE hS (va_free (wc := []) hD hS hA [] rfl) rfl hl.1 rfl (Nat.le_of_ble_eq_true rfl) d_FW_fixed_23 ⟨Nat.le_of_ble_eq_true rfl, Nat.le_of_ble_eq_true rfl⟩) hTb hlocks
set_option maxHeartbeats 4000000 in
set_option maxRecDepth 100000 in
theorem c_FW_scientific_x1 (l : Launch) (hst : l.stackTraces = false) (D : va_G) (Z : Nat → Nat) (hz9 : Nat) (h0 : Nat) (qsh : Nat) (qex : Nat) (qso : Nat) (b : Nat) (nw : Bool) (z1 : Int) (z2 : Int) (hb9 : b < 18446744073709551616) (hwr : nw = true ∧ ¬ b < 4294967296) (hz1 : -2147483648 ≤ z1 ∧ z1 < 2147483648) (hz2 : -2147483648 ≤ z2 ∧ z2 < 2147483648) : vx_Met l y_FW_scientific (.code y_FW_scientific b_FW_scientific 6 (some .int) :: gT) ({ frames := 7, cells := 1, slots := 6, locals := 104 } : Room) (va_Pc [.ref h0, .long (lN (b)), .int (bZ (nw = true)), .int (iZ (z1)), .int (iZ (z2))] (cpre D Z [(h0, .inr (0, [.ref qsh, .ref qex, .ref qso]))] [] hz9)) nQi (xX "java/lang/IllegalArgumentException") 1 6 (fun _ => False) := by
  refine metx_go (by decide) ?_
  intro p e s m below meth c A C0 hTb hsz9 hA hE hK hP hD
  obtain ⟨hx, hb, hml, hown, hts, hr, hlocks⟩ := id C0
  have hS : va_S A s.heap s.heap [] := va_S.rf
  have hl := lv_entry [.ref h0, .long (lN (b)), .int (bZ (nw = true)), .int (iZ (z1)), .int (iZ (z2))] (n := 6) (Nat.le_of_ble_eq_true rfl)
  rw [lg_entry_eq]
  generalize (lg_sl [.ref h0, .long (lN (b)), .int (bZ (nw = true)), .int (iZ (z1)), .int (iZ (z2))] ++ List.replicate (6 - (lg_sl [.ref h0, .long (lN (b)), .int (bZ (nw = true)), .int (iZ (z1)), .int (iZ (z2))]).length) Slot.unset).toArray = ls at hl ⊢
  have hl : lv_has ls 6 [(0, .ref h0), (1, .long (lN (b))), (3, .int (bZ (nw = true))), (4, .int (iZ (z1))), (5, .int (iZ (z2)))] := hl
  refine lv_lload_n hx hb d_FW_scientific_0 rfl (lv_at hl 1 rfl) ?_
  refine lv_iload_n hx hb d_FW_scientific_1 rfl (lv_at hl 2 rfl) ?_
  exact kx_out (kx_S (As := [.long (lN (b)), .int (bZ (nw = true))]) (rest := []) C0 (c_FW_refuseHighBits_x l hst D Z _ b nw (by assumption) (by assumption)) q_y_FW_refuseHighBits kw_256_ kw_255_ kw_3_ hd_y_FW_refuseHighBits rfl rfl ⟨Nat.le_of_ble_eq_true rfl, Nat.le_of_ble_eq_true rfl⟩ (hP.sub (ws' := []) [] rfl) (hD.sub (ws' := []) [] (by decide) rfl) (hK.sub (tys' := []) [] rfl) hE hS (va_free (wc := []) hD hS hA [] rfl) rfl hl.1 rfl (Nat.le_of_ble_eq_true rfl) d_FW_scientific_2 ⟨Nat.le_of_ble_eq_true rfl, Nat.le_of_ble_eq_true rfl⟩) hTb hlocks
set_option maxHeartbeats 4000000 in
set_option maxRecDepth 100000 in
theorem c_FW_scientific_x2 (l : Launch) (hst : l.stackTraces = false) (D : va_G) (Z : Nat → Nat) (hz9 : Nat) (h0 : Nat) (qsh : Nat) (qex : Nat) (qso : Nat) (b : Nat) (nw : Bool) (z1 : Int) (z2 : Int) (hb9 : b < 18446744073709551616) (hok : nw = true → b < 4294967296) (hz1 : -2147483648 ≤ z1 ∧ z1 < 2147483648) (hz2 : -2147483648 ≤ z2 ∧ z2 < 2147483648) (hno : z1 < 1 ∨ 800 < z1) : vx_Met l y_FW_scientific (.code y_FW_scientific b_FW_scientific 6 (some .int) :: gT) ({ frames := 7, cells := 1, slots := 6, locals := 104 } : Room) (va_Pc [.ref h0, .long (lN (b)), .int (bZ (nw = true)), .int (iZ (z1)), .int (iZ (z2))] (cpre D Z [(h0, .inr (0, [.ref qsh, .ref qex, .ref qso]))] [] hz9)) nQi (xX "java/lang/IllegalArgumentException") 1 6 (fun _ => False) := by
  refine metx_go (by decide) ?_
  intro p e s m below meth c A C0 hTb hsz9 hA hE hK hP hD
  obtain ⟨hx, hb, hml, hown, hts, hr, hlocks⟩ := id C0
  have hS : va_S A s.heap s.heap [] := va_S.rf
  have hl := lv_entry [.ref h0, .long (lN (b)), .int (bZ (nw = true)), .int (iZ (z1)), .int (iZ (z2))] (n := 6) (Nat.le_of_ble_eq_true rfl)
  rw [lg_entry_eq]
  generalize (lg_sl [.ref h0, .long (lN (b)), .int (bZ (nw = true)), .int (iZ (z1)), .int (iZ (z2))] ++ List.replicate (6 - (lg_sl [.ref h0, .long (lN (b)), .int (bZ (nw = true)), .int (iZ (z1)), .int (iZ (z2))]).length) Slot.unset).toArray = ls at hl ⊢
  have hl : lv_has ls 6 [(0, .ref h0), (1, .long (lN (b))), (3, .int (bZ (nw = true))), (4, .int (iZ (z1))), (5, .int (iZ (z2)))] := hl
  refine lv_lload_n hx hb d_FW_scientific_0 rfl (lv_at hl 1 rfl) ?_
  refine lv_iload_n hx hb d_FW_scientific_1 rfl (lv_at hl 2 rfl) ?_
  refine kg_v (kr_S (As := [.long (lN (b)), .int (bZ (nw = true))]) (rest := []) C0 (c_FW_refuseHighBits l D Z _ b nw (by assumption) (by assumption)) q_y_FW_refuseHighBits kw_256_ kw_255_ kw_3_ hd_y_FW_refuseHighBits rfl rfl ⟨Nat.le_of_ble_eq_true rfl, Nat.le_of_ble_eq_true rfl⟩ (hP.sub (ws' := []) [] rfl) (hD.sub (ws' := []) [] (by decide) rfl) (hK.sub (tys' := []) [] rfl) hE hS (va_free (wc := []) hD hS hA [] rfl) rfl hl.1 rfl (Nat.le_of_ble_eq_true rfl) d_FW_scientific_2 ⟨Nat.le_of_ble_eq_true rfl, Nat.le_of_ble_eq_true rfl⟩) ?_
  refine lv_iload hx hb d_FW_scientific_5 (lv_at hl 3 rfl) ?_
  refine lv_iconst (v := iZ (1)) hx hb d_FW_scientific_7 rfl ?_
  refine lv_sipush (v := iZ (800)) hx hb d_FW_scientific_8 (by decide) ?_
  exact kx_out (kx_S (As := [.int (iZ (z1)), .int (iZ (1)), .int (iZ (800))]) (rest := []) C0 (c_FW_refuseOutside_x l hst D Z _ z1 1 800 (by omega) (hz1) (by omega)) q_y_FW_refuseOutside kw_287_ kw_286_ kw_3_ hd_y_FW_refuseOutside rfl rfl ⟨Nat.le_of_ble_eq_true rfl, Nat.le_of_ble_eq_true rfl⟩ (hP.sub (ws' := []) [] rfl) (hD.sub (ws' := []) [] (by decide) rfl) (hK.sub (tys' := []) [] rfl) hE hS (va_free (wc := []) hD hS hA [] rfl) rfl hl.1 rfl (Nat.le_of_ble_eq_true rfl) d_FW_scientific_11 ⟨Nat.le_of_ble_eq_true rfl, Nat.le_of_ble_eq_true rfl⟩) hTb hlocks
set_option maxHeartbeats 4000000 in
set_option maxRecDepth 100000 in
theorem c_FW_scientific_x3 (l : Launch) (hst : l.stackTraces = false) (D : va_G) (Z : Nat → Nat) (hz9 : Nat) (h0 : Nat) (qsh : Nat) (qex : Nat) (qso : Nat) (b : Nat) (nw : Bool) (z1 : Int) (z2 : Int) (hb9 : b < 18446744073709551616) (hok : nw = true → b < 4294967296) (hz1 : -2147483648 ≤ z1 ∧ z1 < 2147483648) (hz2 : -2147483648 ≤ z2 ∧ z2 < 2147483648) (hok1 : 1 ≤ z1 ∧ z1 ≤ 800) (hno : z2 < 0 ∨ 3 < z2) : vx_Met l y_FW_scientific (.code y_FW_scientific b_FW_scientific 6 (some .int) :: gT) ({ frames := 7, cells := 1, slots := 6, locals := 104 } : Room) (va_Pc [.ref h0, .long (lN (b)), .int (bZ (nw = true)), .int (iZ (z1)), .int (iZ (z2))] (cpre D Z [(h0, .inr (0, [.ref qsh, .ref qex, .ref qso]))] [] hz9)) nQi (xX "java/lang/IllegalArgumentException") 1 6 (fun _ => False) := by
  refine metx_go (by decide) ?_
  intro p e s m below meth c A C0 hTb hsz9 hA hE hK hP hD
  obtain ⟨hx, hb, hml, hown, hts, hr, hlocks⟩ := id C0
  have hS : va_S A s.heap s.heap [] := va_S.rf
  have hl := lv_entry [.ref h0, .long (lN (b)), .int (bZ (nw = true)), .int (iZ (z1)), .int (iZ (z2))] (n := 6) (Nat.le_of_ble_eq_true rfl)
  rw [lg_entry_eq]
  generalize (lg_sl [.ref h0, .long (lN (b)), .int (bZ (nw = true)), .int (iZ (z1)), .int (iZ (z2))] ++ List.replicate (6 - (lg_sl [.ref h0, .long (lN (b)), .int (bZ (nw = true)), .int (iZ (z1)), .int (iZ (z2))]).length) Slot.unset).toArray = ls at hl ⊢
  have hl : lv_has ls 6 [(0, .ref h0), (1, .long (lN (b))), (3, .int (bZ (nw = true))), (4, .int (iZ (z1))), (5, .int (iZ (z2)))] := hl
  refine lv_lload_n hx hb d_FW_scientific_0 rfl (lv_at hl 1 rfl) ?_
  refine lv_iload_n hx hb d_FW_scientific_1 rfl (lv_at hl 2 rfl) ?_
  refine kg_v (kr_S (As := [.long (lN (b)), .int (bZ (nw = true))]) (rest := []) C0 (c_FW_refuseHighBits l D Z _ b nw (by assumption) (by assumption)) q_y_FW_refuseHighBits kw_256_ kw_255_ kw_3_ hd_y_FW_refuseHighBits rfl rfl ⟨Nat.le_of_ble_eq_true rfl, Nat.le_of_ble_eq_true rfl⟩ (hP.sub (ws' := []) [] rfl) (hD.sub (ws' := []) [] (by decide) rfl) (hK.sub (tys' := []) [] rfl) hE hS (va_free (wc := []) hD hS hA [] rfl) rfl hl.1 rfl (Nat.le_of_ble_eq_true rfl) d_FW_scientific_2 ⟨Nat.le_of_ble_eq_true rfl, Nat.le_of_ble_eq_true rfl⟩) ?_
  refine lv_iload hx hb d_FW_scientific_5 (lv_at hl 3 rfl) ?_
  refine lv_iconst (v := iZ (1)) hx hb d_FW_scientific_7 rfl ?_
  refine lv_sipush (v := iZ (800)) hx hb d_FW_scientific_8 (by decide) ?_
  refine kg_v (kr_S (As := [.int (iZ (z1)), .int (iZ (1)), .int (iZ (800))]) (rest := []) C0 (c_FW_refuseOutside l D Z _ z1 1 800 (by omega) (by omega)) q_y_FW_refuseOutside kw_287_ kw_286_ kw_3_ hd_y_FW_refuseOutside rfl rfl ⟨Nat.le_of_ble_eq_true rfl, Nat.le_of_ble_eq_true rfl⟩ (hP.sub (ws' := []) [] rfl) (hD.sub (ws' := []) [] (by decide) rfl) (hK.sub (tys' := []) [] rfl) hE hS (va_free (wc := []) hD hS hA [] rfl) rfl hl.1 rfl (Nat.le_of_ble_eq_true rfl) d_FW_scientific_11 ⟨Nat.le_of_ble_eq_true rfl, Nat.le_of_ble_eq_true rfl⟩) ?_
  refine lv_iload hx hb d_FW_scientific_14 (lv_at hl 4 rfl) ?_
  refine lv_iconst (v := iZ (0)) hx hb d_FW_scientific_16 rfl ?_
  refine lv_iconst (v := iZ (3)) hx hb d_FW_scientific_17 rfl ?_
  exact kx_out (kx_S (As := [.int (iZ (z2)), .int (iZ (0)), .int (iZ (3))]) (rest := []) C0 (c_FW_refuseOutside_x l hst D Z _ z2 0 3 (by omega) (hz2) (by omega)) q_y_FW_refuseOutside kw_287_ kw_286_ kw_3_ hd_y_FW_refuseOutside rfl rfl ⟨Nat.le_of_ble_eq_true rfl, Nat.le_of_ble_eq_true rfl⟩ (hP.sub (ws' := []) [] rfl) (hD.sub (ws' := []) [] (by decide) rfl) (hK.sub (tys' := []) [] rfl) hE hS (va_free (wc := []) hD hS hA [] rfl) rfl hl.1 rfl (Nat.le_of_ble_eq_true rfl) d_FW_scientific_18 ⟨Nat.le_of_ble_eq_true rfl, Nat.le_of_ble_eq_true rfl⟩) hTb hlocks
set_option maxHeartbeats 4000000 in
set_option maxRecDepth 100000 in
theorem c_FW_scientific_x4 (l : Launch) (hst : l.stackTraces = false) (D : va_G) (Z : Nat → Nat) (hz9 : Nat) (h0 : Nat) (qsh : Nat) (qex : Nat) (qso : Nat) (b : Nat) (nw : Bool) (z1 : Int) (z2 : Int) (hb9 : b < 18446744073709551616) (hok : nw = true → b < 4294967296) (hz1 : -2147483648 ≤ z1 ∧ z1 < 2147483648) (hz2 : -2147483648 ≤ z2 ∧ z2 < 2147483648) (hok1 : 1 ≤ z1 ∧ z1 ≤ 800) (hok2 : 0 ≤ z2 ∧ z2 ≤ 3) (hnf : ¬ fSz b nw < fI nw) : vx_Met l y_FW_scientific (.code y_FW_scientific b_FW_scientific 6 (some .int) :: gT) ({ frames := 7, cells := 1, slots := 6, locals := 104 } : Room) (va_Pc [.ref h0, .long (lN (b)), .int (bZ (nw = true)), .int (iZ (z1)), .int (iZ (z2))] (cpre D Z [(h0, .inr (0, [.ref qsh, .ref qex, .ref qso]))] [] hz9)) nQi (xX "java/lang/ArithmeticException") 1 6 (fun _ => False) := by
  refine metx_go (by decide) ?_
  intro p e s m below meth c A C0 hTb hsz9 hA hE hK hP hD
  obtain ⟨hx, hb, hml, hown, hts, hr, hlocks⟩ := id C0
  have hS : va_S A s.heap s.heap [] := va_S.rf
  have hl := lv_entry [.ref h0, .long (lN (b)), .int (bZ (nw = true)), .int (iZ (z1)), .int (iZ (z2))] (n := 6) (Nat.le_of_ble_eq_true rfl)
  rw [lg_entry_eq]
  generalize (lg_sl [.ref h0, .long (lN (b)), .int (bZ (nw = true)), .int (iZ (z1)), .int (iZ (z2))] ++ List.replicate (6 - (lg_sl [.ref h0, .long (lN (b)), .int (bZ (nw = true)), .int (iZ (z1)), .int (iZ (z2))]).length) Slot.unset).toArray = ls at hl ⊢
  have hl : lv_has ls 6 [(0, .ref h0), (1, .long (lN (b))), (3, .int (bZ (nw = true))), (4, .int (iZ (z1))), (5, .int (iZ (z2)))] := hl
  refine lv_lload_n hx hb d_FW_scientific_0 rfl (lv_at hl 1 rfl) ?_
  refine lv_iload_n hx hb d_FW_scientific_1 rfl (lv_at hl 2 rfl) ?_
  refine kg_v (kr_S (As := [.long (lN (b)), .int (bZ (nw = true))]) (rest := []) C0 (c_FW_refuseHighBits l D Z _ b nw (by assumption) (by assumption)) q_y_FW_refuseHighBits kw_256_ kw_255_ kw_3_ hd_y_FW_refuseHighBits rfl rfl ⟨Nat.le_of_ble_eq_true rfl, Nat.le_of_ble_eq_true rfl⟩ (hP.sub (ws' := []) [] rfl) (hD.sub (ws' := []) [] (by decide) rfl) (hK.sub (tys' := []) [] rfl) hE hS (va_free (wc := []) hD hS hA [] rfl) rfl hl.1 rfl (Nat.le_of_ble_eq_true rfl) d_FW_scientific_2 ⟨Nat.le_of_ble_eq_true rfl, Nat.le_of_ble_eq_true rfl⟩) ?_
  refine lv_iload hx hb d_FW_scientific_5 (lv_at hl 3 rfl) ?_
  refine lv_iconst (v := iZ (1)) hx hb d_FW_scientific_7 rfl ?_
  refine lv_sipush (v := iZ (800)) hx hb d_FW_scientific_8 (by decide) ?_
  refine kg_v (kr_S (As := [.int (iZ (z1)), .int (iZ (1)), .int (iZ (800))]) (rest := []) C0 (c_FW_refuseOutside l D Z _ z1 1 800 (by omega) (by omega)) q_y_FW_refuseOutside kw_287_ kw_286_ kw_3_ hd_y_FW_refuseOutside rfl rfl ⟨Nat.le_of_ble_eq_true rfl, Nat.le_of_ble_eq_true rfl⟩ (hP.sub (ws' := []) [] rfl) (hD.sub (ws' := []) [] (by decide) rfl) (hK.sub (tys' := []) [] rfl) hE hS (va_free (wc := []) hD hS hA [] rfl) rfl hl.1 rfl (Nat.le_of_ble_eq_true rfl) d_FW_scientific_11 ⟨Nat.le_of_ble_eq_true rfl, Nat.le_of_ble_eq_true rfl⟩) ?_
  refine lv_iload hx hb d_FW_scientific_14 (lv_at hl 4 rfl) ?_
  refine lv_iconst (v := iZ (0)) hx hb d_FW_scientific_16 rfl ?_
  refine lv_iconst (v := iZ (3)) hx hb d_FW_scientific_17 rfl ?_
  refine kg_v (kr_S (As := [.int (iZ (z2)), .int (iZ (0)), .int (iZ (3))]) (rest := []) C0 (c_FW_refuseOutside l D Z _ z2 0 3 (by omega) (by omega)) q_y_FW_refuseOutside kw_287_ kw_286_ kw_3_ hd_y_FW_refuseOutside rfl rfl ⟨Nat.le_of_ble_eq_true rfl, Nat.le_of_ble_eq_true rfl⟩ (hP.sub (ws' := []) [] rfl) (hD.sub (ws' := []) [] (by decide) rfl) (hK.sub (tys' := []) [] rfl) hE hS (va_free (wc := []) hD hS hA [] rfl) rfl hl.1 rfl (Nat.le_of_ble_eq_true rfl) d_FW_scientific_18 ⟨Nat.le_of_ble_eq_true rfl, Nat.le_of_ble_eq_true rfl⟩) ?_
  refine lv_lload_n hx hb d_FW_scientific_21 rfl (lv_at hl 1 rfl) ?_
  refine lv_iload_n hx hb d_FW_scientific_22 rfl (lv_at hl 2 rfl) ?_
  exact kx_out (kx_S (As := [.long (lN (b)), .int (bZ (nw = true))]) (rest := []) C0 (c_FW_refuseNotFinite_x l hst D Z _ b nw (by assumption) (by assumption)) q_y_FW_refuseNotFinite kw_276_ kw_275_ kw_3_ hd_y_FW_refuseNotFinite rfl rfl ⟨Nat.le_of_ble_eq_true rfl, Nat.le_of_ble_eq_true rfl⟩ (hP.sub (ws' := []) [] rfl) (hD.sub (ws' := []) [] (by decide) rfl) (hK.sub (tys' := []) [] rfl) hE hS (va_free (wc := []) hD hS hA [] rfl) rfl hl.1 rfl (Nat.le_of_ble_eq_true rfl) d_FW_scientific_23 ⟨Nat.le_of_ble_eq_true rfl, Nat.le_of_ble_eq_true rfl⟩) hTb hlocks
set_option maxHeartbeats 4000000 in
set_option maxRecDepth 100000 in
theorem c_FW_digits_x1 (l : Launch) (hst : l.stackTraces = false) (D : va_G) (Z : Nat → Nat) (hz9 : Nat) (h0 : Nat) (qsh : Nat) (qex : Nat) (qso : Nat) (b : Nat) (nw : Bool) (hb9 : b < 18446744073709551616) (hwr : nw = true ∧ ¬ b < 4294967296) : vx_Met l y_FW_digits (.code y_FW_digits b_FW_digits 4 (some .long) :: gT) ({ frames := 7, cells := 1, slots := 6, locals := 104 } : Room) (va_Pc [.ref h0, .long (lN (b)), .int (bZ (nw = true))] (cpre D Z [(h0, .inr (0, [.ref qsh, .ref qex, .ref qso]))] [] hz9)) nQl (xX "java/lang/IllegalArgumentException") 1 6 (fun _ => False) := by
  refine metx_go (by decide) ?_
  intro p e s m below meth c A C0 hTb hsz9 hA hE hK hP hD
  obtain ⟨hx, hb, hml, hown, hts, hr, hlocks⟩ := id C0
  have hS : va_S A s.heap s.heap [] := va_S.rf
  have hl := lv_entry [.ref h0, .long (lN (b)), .int (bZ (nw = true))] (n := 4) (Nat.le_of_ble_eq_true rfl)
  rw [lg_entry_eq]
  generalize (lg_sl [.ref h0, .long (lN (b)), .int (bZ (nw = true))] ++ List.replicate (4 - (lg_sl [.ref h0, .long (lN (b)), .int (bZ (nw = true))]).length) Slot.unset).toArray = ls at hl ⊢
  have hl : lv_has ls 4 [(0, .ref h0), (1, .long (lN (b))), (3, .int (bZ (nw = true)))] := hl
  refine lv_lload_n hx hb d_FW_digits_0 rfl (lv_at hl 1 rfl) ?_
  refine lv_iload_n hx hb d_FW_digits_1 rfl (lv_at hl 2 rfl) ?_
  exact kx_out (kx_S (As := [.long (lN (b)), .int (bZ (nw = true))]) (rest := []) C0 (c_FW_refuseHighBits_x l hst D Z _ b nw (by assumption) (by assumption)) q_y_FW_refuseHighBits kw_256_ kw_255_ kw_3_ hd_y_FW_refuseHighBits rfl rfl ⟨Nat.le_of_ble_eq_true rfl, Nat.le_of_ble_eq_true rfl⟩ (hP.sub (ws' := []) [] rfl) (hD.sub (ws' := []) [] (by decide) rfl) (hK.sub (tys' := []) [] rfl) hE hS (va_free (wc := []) hD hS hA [] rfl) rfl hl.1 rfl (Nat.le_of_ble_eq_true rfl) d_FW_digits_2 ⟨Nat.le_of_ble_eq_true rfl, Nat.le_of_ble_eq_true rfl⟩) hTb hlocks
set_option maxHeartbeats 4000000 in
set_option maxRecDepth 100000 in
theorem c_FW_digits_x2 (l : Launch) (hst : l.stackTraces = false) (D : va_G) (Z : Nat → Nat) (hz9 : Nat) (h0 : Nat) (qsh : Nat) (qex : Nat) (qso : Nat) (b : Nat) (nw : Bool) (hb9 : b < 18446744073709551616) (hok : nw = true → b < 4294967296) (hnf : ¬ fSz b nw < fI nw) : vx_Met l y_FW_digits (.code y_FW_digits b_FW_digits 4 (some .long) :: gT) ({ frames := 7, cells := 1, slots := 6, locals := 104 } : Room) (va_Pc [.ref h0, .long (lN (b)), .int (bZ (nw = true))] (cpre D Z [(h0, .inr (0, [.ref qsh, .ref qex, .ref qso]))] [] hz9)) nQl (xX "java/lang/ArithmeticException") 1 6 (fun _ => False) := by
  refine metx_go (by decide) ?_
  intro p e s m below meth c A C0 hTb hsz9 hA hE hK hP hD
  obtain ⟨hx, hb, hml, hown, hts, hr, hlocks⟩ := id C0
  have hS : va_S A s.heap s.heap [] := va_S.rf
  have hl := lv_entry [.ref h0, .long (lN (b)), .int (bZ (nw = true))] (n := 4) (Nat.le_of_ble_eq_true rfl)
  rw [lg_entry_eq]
  generalize (lg_sl [.ref h0, .long (lN (b)), .int (bZ (nw = true))] ++ List.replicate (4 - (lg_sl [.ref h0, .long (lN (b)), .int (bZ (nw = true))]).length) Slot.unset).toArray = ls at hl ⊢
  have hl : lv_has ls 4 [(0, .ref h0), (1, .long (lN (b))), (3, .int (bZ (nw = true)))] := hl
  refine lv_lload_n hx hb d_FW_digits_0 rfl (lv_at hl 1 rfl) ?_
  refine lv_iload_n hx hb d_FW_digits_1 rfl (lv_at hl 2 rfl) ?_
  refine kg_v (kr_S (As := [.long (lN (b)), .int (bZ (nw = true))]) (rest := []) C0 (c_FW_refuseHighBits l D Z _ b nw (by assumption) (by assumption)) q_y_FW_refuseHighBits kw_256_ kw_255_ kw_3_ hd_y_FW_refuseHighBits rfl rfl ⟨Nat.le_of_ble_eq_true rfl, Nat.le_of_ble_eq_true rfl⟩ (hP.sub (ws' := []) [] rfl) (hD.sub (ws' := []) [] (by decide) rfl) (hK.sub (tys' := []) [] rfl) hE hS (va_free (wc := []) hD hS hA [] rfl) rfl hl.1 rfl (Nat.le_of_ble_eq_true rfl) d_FW_digits_2 ⟨Nat.le_of_ble_eq_true rfl, Nat.le_of_ble_eq_true rfl⟩) ?_
  refine lv_lload_n hx hb d_FW_digits_5 rfl (lv_at hl 1 rfl) ?_
  refine lv_iload_n hx hb d_FW_digits_6 rfl (lv_at hl 2 rfl) ?_
  exact kx_out (kx_S (As := [.long (lN (b)), .int (bZ (nw = true))]) (rest := []) C0 (c_FW_refuseNotFinite_x l hst D Z _ b nw (by assumption) (by assumption)) q_y_FW_refuseNotFinite kw_276_ kw_275_ kw_3_ hd_y_FW_refuseNotFinite rfl rfl ⟨Nat.le_of_ble_eq_true rfl, Nat.le_of_ble_eq_true rfl⟩ (hP.sub (ws' := []) [] rfl) (hD.sub (ws' := []) [] (by decide) rfl) (hK.sub (tys' := []) [] rfl) hE hS (va_free (wc := []) hD hS hA [] rfl) rfl hl.1 rfl (Nat.le_of_ble_eq_true rfl) d_FW_digits_7 ⟨Nat.le_of_ble_eq_true rfl, Nat.le_of_ble_eq_true rfl⟩) hTb hlocks
set_option maxHeartbeats 4000000 in
set_option maxRecDepth 100000 in
theorem c_FW_power_x1 (l : Launch) (hst : l.stackTraces = false) (D : va_G) (Z : Nat → Nat) (hz9 : Nat) (h0 : Nat) (qsh : Nat) (qex : Nat) (qso : Nat) (b : Nat) (nw : Bool) (hb9 : b < 18446744073709551616) (hwr : nw = true ∧ ¬ b < 4294967296) : vx_Met l y_FW_power (.code y_FW_power b_FW_power 4 (some .int) :: gT) ({ frames := 7, cells := 1, slots := 6, locals := 104 } : Room) (va_Pc [.ref h0, .long (lN (b)), .int (bZ (nw = true))] (cpre D Z [(h0, .inr (0, [.ref qsh, .ref qex, .ref qso]))] [] hz9)) nQi (xX "java/lang/IllegalArgumentException") 1 6 (fun _ => False) := by
  refine metx_go (by decide) ?_
  intro p e s m below meth c A C0 hTb hsz9 hA hE hK hP hD
  obtain ⟨hx, hb, hml, hown, hts, hr, hlocks⟩ := id C0
  have hS : va_S A s.heap s.heap [] := va_S.rf
  have hl := lv_entry [.ref h0, .long (lN (b)), .int (bZ (nw = true))] (n := 4) (Nat.le_of_ble_eq_true rfl)
  rw [lg_entry_eq]
  generalize (lg_sl [.ref h0, .long (lN (b)), .int (bZ (nw = true))] ++ List.replicate (4 - (lg_sl [.ref h0, .long (lN (b)), .int (bZ (nw = true))]).length) Slot.unset).toArray = ls at hl ⊢
  have hl : lv_has ls 4 [(0, .ref h0), (1, .long (lN (b))), (3, .int (bZ (nw = true)))] := hl
  refine lv_lload_n hx hb d_FW_power_0 rfl (lv_at hl 1 rfl) ?_
  refine lv_iload_n hx hb d_FW_power_1 rfl (lv_at hl 2 rfl) ?_
  exact kx_out (kx_S (As := [.long (lN (b)), .int (bZ (nw = true))]) (rest := []) C0 (c_FW_refuseHighBits_x l hst D Z _ b nw (by assumption) (by assumption)) q_y_FW_refuseHighBits kw_256_ kw_255_ kw_3_ hd_y_FW_refuseHighBits rfl rfl ⟨Nat.le_of_ble_eq_true rfl, Nat.le_of_ble_eq_true rfl⟩ (hP.sub (ws' := []) [] rfl) (hD.sub (ws' := []) [] (by decide) rfl) (hK.sub (tys' := []) [] rfl) hE hS (va_free (wc := []) hD hS hA [] rfl) rfl hl.1 rfl (Nat.le_of_ble_eq_true rfl) d_FW_power_2 ⟨Nat.le_of_ble_eq_true rfl, Nat.le_of_ble_eq_true rfl⟩) hTb hlocks
set_option maxHeartbeats 4000000 in
set_option maxRecDepth 100000 in
theorem c_FW_power_x2 (l : Launch) (hst : l.stackTraces = false) (D : va_G) (Z : Nat → Nat) (hz9 : Nat) (h0 : Nat) (qsh : Nat) (qex : Nat) (qso : Nat) (b : Nat) (nw : Bool) (hb9 : b < 18446744073709551616) (hok : nw = true → b < 4294967296) (hnf : ¬ fSz b nw < fI nw) : vx_Met l y_FW_power (.code y_FW_power b_FW_power 4 (some .int) :: gT) ({ frames := 7, cells := 1, slots := 6, locals := 104 } : Room) (va_Pc [.ref h0, .long (lN (b)), .int (bZ (nw = true))] (cpre D Z [(h0, .inr (0, [.ref qsh, .ref qex, .ref qso]))] [] hz9)) nQi (xX "java/lang/ArithmeticException") 1 6 (fun _ => False) := by
  refine metx_go (by decide) ?_
  intro p e s m below meth c A C0 hTb hsz9 hA hE hK hP hD
  obtain ⟨hx, hb, hml, hown, hts, hr, hlocks⟩ := id C0
  have hS : va_S A s.heap s.heap [] := va_S.rf
  have hl := lv_entry [.ref h0, .long (lN (b)), .int (bZ (nw = true))] (n := 4) (Nat.le_of_ble_eq_true rfl)
  rw [lg_entry_eq]
  generalize (lg_sl [.ref h0, .long (lN (b)), .int (bZ (nw = true))] ++ List.replicate (4 - (lg_sl [.ref h0, .long (lN (b)), .int (bZ (nw = true))]).length) Slot.unset).toArray = ls at hl ⊢
  have hl : lv_has ls 4 [(0, .ref h0), (1, .long (lN (b))), (3, .int (bZ (nw = true)))] := hl
  refine lv_lload_n hx hb d_FW_power_0 rfl (lv_at hl 1 rfl) ?_
  refine lv_iload_n hx hb d_FW_power_1 rfl (lv_at hl 2 rfl) ?_
  refine kg_v (kr_S (As := [.long (lN (b)), .int (bZ (nw = true))]) (rest := []) C0 (c_FW_refuseHighBits l D Z _ b nw (by assumption) (by assumption)) q_y_FW_refuseHighBits kw_256_ kw_255_ kw_3_ hd_y_FW_refuseHighBits rfl rfl ⟨Nat.le_of_ble_eq_true rfl, Nat.le_of_ble_eq_true rfl⟩ (hP.sub (ws' := []) [] rfl) (hD.sub (ws' := []) [] (by decide) rfl) (hK.sub (tys' := []) [] rfl) hE hS (va_free (wc := []) hD hS hA [] rfl) rfl hl.1 rfl (Nat.le_of_ble_eq_true rfl) d_FW_power_2 ⟨Nat.le_of_ble_eq_true rfl, Nat.le_of_ble_eq_true rfl⟩) ?_
  refine lv_lload_n hx hb d_FW_power_5 rfl (lv_at hl 1 rfl) ?_
  refine lv_iload_n hx hb d_FW_power_6 rfl (lv_at hl 2 rfl) ?_
  exact kx_out (kx_S (As := [.long (lN (b)), .int (bZ (nw = true))]) (rest := []) C0 (c_FW_refuseNotFinite_x l hst D Z _ b nw (by assumption) (by assumption)) q_y_FW_refuseNotFinite kw_276_ kw_275_ kw_3_ hd_y_FW_refuseNotFinite rfl rfl ⟨Nat.le_of_ble_eq_true rfl, Nat.le_of_ble_eq_true rfl⟩ (hP.sub (ws' := []) [] rfl) (hD.sub (ws' := []) [] (by decide) rfl) (hK.sub (tys' := []) [] rfl) hE hS (va_free (wc := []) hD hS hA [] rfl) rfl hl.1 rfl (Nat.le_of_ble_eq_true rfl) d_FW_power_7 ⟨Nat.le_of_ble_eq_true rfl, Nat.le_of_ble_eq_true rfl⟩) hTb hlocks
set_option maxHeartbeats 4000000 in
set_option maxRecDepth 100000 in
theorem c_FW_next_x (l : Launch) (hst : l.stackTraces = false) (D : va_G) (Z : Nat → Nat) (hz9 : Nat) (h0 : Nat) (qsh : Nat) (qex : Nat) (qso : Nat) (b : Nat) (nw : Bool) (up : Bool) (hb9 : b < 18446744073709551616) (hwr : nw = true ∧ ¬ b < 4294967296) : vx_Met l y_FW_next (.code y_FW_next b_FW_next 8 (some .long) :: gT) ({ frames := 7, cells := 1, slots := 6, locals := 104 } : Room) (va_Pc [.ref h0, .long (lN (b)), .int (bZ (nw = true)), .int (bZ (up = true))] (cpre D Z [(h0, .inr (0, [.ref qsh, .ref qex, .ref qso]))] [] hz9)) nQl (xX "java/lang/IllegalArgumentException") 1 6 (fun _ => False) := by
  refine metx_go (by decide) ?_
  intro p e s m below meth c A C0 hTb hsz9 hA hE hK hP hD
  obtain ⟨hx, hb, hml, hown, hts, hr, hlocks⟩ := id C0
  have hS : va_S A s.heap s.heap [] := va_S.rf
  have hl := lv_entry [.ref h0, .long (lN (b)), .int (bZ (nw = true)), .int (bZ (up = true))] (n := 8) (Nat.le_of_ble_eq_true rfl)
  rw [lg_entry_eq]
  generalize (lg_sl [.ref h0, .long (lN (b)), .int (bZ (nw = true)), .int (bZ (up = true))] ++ List.replicate (8 - (lg_sl [.ref h0, .long (lN (b)), .int (bZ (nw = true)), .int (bZ (up = true))]).length) Slot.unset).toArray = ls at hl ⊢
  have hl : lv_has ls 8 [(0, .ref h0), (1, .long (lN (b))), (3, .int (bZ (nw = true))), (4, .int (bZ (up = true)))] := hl
  refine lv_lload_n hx hb d_FW_next_0 rfl (lv_at hl 1 rfl) ?_
  refine lv_iload_n hx hb d_FW_next_1 rfl (lv_at hl 2 rfl) ?_
  exact kx_out (kx_S (As := [.long (lN (b)), .int (bZ (nw = true))]) (rest := []) C0 (c_FW_refuseHighBits_x l hst D Z _ b nw (by assumption) (by assumption)) q_y_FW_refuseHighBits kw_256_ kw_255_ kw_3_ hd_y_FW_refuseHighBits rfl rfl ⟨Nat.le_of_ble_eq_true rfl, Nat.le_of_ble_eq_true rfl⟩ (hP.sub (ws' := []) [] rfl) (hD.sub (ws' := []) [] (by decide) rfl) (hK.sub (tys' := []) [] rfl) hE hS (va_free (wc := []) hD hS hA [] rfl) rfl hl.1 rfl (Nat.le_of_ble_eq_true rfl) d_FW_next_2 ⟨Nat.le_of_ble_eq_true rfl, Nat.le_of_ble_eq_true rfl⟩) hTb hlocks
set_option maxHeartbeats 4000000 in
set_option maxRecDepth 100000 in
theorem c_FW_widened_x (l : Launch) (hst : l.stackTraces = false) (D : va_G) (Z : Nat → Nat) (hz9 : Nat) (h0 : Nat) (qsh : Nat) (qex : Nat) (qso : Nat) (b : Nat) (hb9 : b < 18446744073709551616) (hno : ¬ b < 4294967296) : vx_Met l y_FW_widened (.code y_FW_widened b_FW_widened 7 (some .long) :: gT) ({ frames := 7, cells := 1, slots := 6, locals := 104 } : Room) (va_Pc [.ref h0, .long (lN (b))] (cpre D Z [(h0, .inr (0, [.ref qsh, .ref qex, .ref qso]))] [] hz9)) nQl (xX "java/lang/IllegalArgumentException") 1 6 (fun _ => False) := by
  refine metx_go (by decide) ?_
  intro p e s m below meth c A C0 hTb hsz9 hA hE hK hP hD
  obtain ⟨hx, hb, hml, hown, hts, hr, hlocks⟩ := id C0
  have hS : va_S A s.heap s.heap [] := va_S.rf
  have hl := lv_entry [.ref h0, .long (lN (b))] (n := 7) (Nat.le_of_ble_eq_true rfl)
  rw [lg_entry_eq]
  generalize (lg_sl [.ref h0, .long (lN (b))] ++ List.replicate (7 - (lg_sl [.ref h0, .long (lN (b))]).length) Slot.unset).toArray = ls at hl ⊢
  have hl : lv_has ls 7 [(0, .ref h0), (1, .long (lN (b)))] := hl
  refine lv_lload_n hx hb d_FW_widened_0 rfl (lv_at hl 1 rfl) ?_
  refine lv_iconst (v := iZ (1)) hx hb d_FW_widened_1 rfl ?_
  refine zv_top (y := bZ (true = true)) ((bZ_t rfl).symm) ?_
  exact kx_out (kx_S (As := [.long (lN (b)), .int (bZ (true = true))]) (rest := []) C0 (c_FW_refuseHighBits_x l hst D Z _ b true (by assumption) (⟨rfl, hno⟩)) q_y_FW_refuseHighBits kw_256_ kw_255_ kw_3_ hd_y_FW_refuseHighBits rfl rfl ⟨Nat.le_of_ble_eq_true rfl, Nat.le_of_ble_eq_true rfl⟩ (hP.sub (ws' := []) [] rfl) (hD.sub (ws' := []) [] (by decide) rfl) (hK.sub (tys' := []) [] rfl) hE hS (va_free (wc := []) hD hS hA [] rfl) rfl hl.1 rfl (Nat.le_of_ble_eq_true rfl) d_FW_widened_2 ⟨Nat.le_of_ble_eq_true rfl, Nat.le_of_ble_eq_true rfl⟩) hTb hlocks
