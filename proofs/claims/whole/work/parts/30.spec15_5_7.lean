theorem kw_272_ : Cond.methodLink R_FW 83 y_Sheet_eightFrom ∈ gT := gT_in 135 (by decide +kernel) (by decide +kernel)
theorem kw_273_ : Cond.instanceMethod y_Sheet_eightFrom ∈ gT := gT_in 136 (by decide +kernel) (by decide +kernel)
theorem kw_274_ : Cond.selects R_Sheet y_Sheet_eightFrom y_Sheet_eightFrom ∈ gT := gT_in 137 (by decide +kernel) (by decide +kernel)
set_option maxRecDepth 100000 in
theorem q_y_Sheet_eightFrom : Cond.code y_Sheet_eightFrom b_Sheet_eightFrom 7 (some .long) ∈ gT := gT_in 138 rfl rfl
theorem hd_y_Sheet_eightFrom : y_Sheet_eightFrom.cls ≠ "java/lang/invoke/MethodHandle" ∧ y_Sheet_eightFrom.cls ≠ "java/lang/invoke/VarHandle" ∧ (parseMethodDescriptor y_Sheet_eightFrom.desc).map (fun d => d.parameters.length) = some 1 := by decide +kernel
theorem d_FW_paper_0 : decode b_FW_paper 0 = .ok (.aload_n 0, 1) := by decide +kernel
theorem d_FW_paper_1 : decode b_FW_paper 1 = .ok (.getfield 10, 3) := by decide +kernel
theorem d_FW_paper_4 : decode b_FW_paper 4 = .ok (.invokevirtual 50, 3) := by decide +kernel
theorem d_FW_paper_7 : decode b_FW_paper 7 = .ok (.ireturn, 1) := by decide +kernel
theorem d_FW_paperAt_0 : decode b_FW_paperAt 0 = .ok (.aload_n 0, 1) := by decide +kernel
theorem d_FW_paperAt_1 : decode b_FW_paperAt 1 = .ok (.getfield 10, 3) := by decide +kernel
theorem d_FW_paperAt_4 : decode b_FW_paperAt 4 = .ok (.iload_n 1, 1) := by decide +kernel
theorem d_FW_paperAt_5 : decode b_FW_paperAt 5 = .ok (.invokevirtual 83, 3) := by decide +kernel
theorem d_FW_paperAt_8 : decode b_FW_paperAt 8 = .ok (.lreturn, 1) := by decide +kernel
abbrev Qc_FW_paper (D : va_G) (h0 : Nat) (qsh : Nat) (qex : Nat) (qso : Nat) (qb : Nat) (cAb : ClassId) (g : Nat → Int32) (t : List Nat) (A : Nat → Prop) : Array Value → State → Outcome → State → Prop := vp_Si (fun r : Int32 => r = iZ ((((t).length : Nat) : Int)))
set_option maxHeartbeats 4000000 in
set_option maxRecDepth 100000 in
theorem c_FW_paper (l : Launch) (D : va_G) (Z : Nat → Nat) (hz9 : Nat) (h0 : Nat) (qsh : Nat) (qex : Nat) (qso : Nat) (qb : Nat) (cAb : ClassId) (g : Nat → Int32) (t : List Nat)  : Met l y_FW_paper (.code y_FW_paper b_FW_paper 1 (some .int) :: gT) ({ frames := 1, cells := 0, slots := 0, locals := 20 } : Room) (va_Pc [.ref h0] (cpre D Z [(h0, .inr (0, [.ref qsh, .ref qex, .ref qso])), (qsh, .inr (1, [.ref qb, .int (iZ ((((t).length : Nat) : Int)))])), (qb, .inl (cAb, 1440, .inl g))] [(cAb, .byte)] hz9)) (Qc_FW_paper D h0 qsh qex qso qb cAb g t (va_A [(h0, .inr (0, [.ref qsh, .ref qex, .ref qso])), (qsh, .inr (1, [.ref qb, .int (iZ ((((t).length : Nat) : Int)))])), (qb, .inl (cAb, 1440, .inl g))] hz9)) 0 0 (fun _ => False) := by
  refine met_go (Qf := Qc_FW_paper D h0 qsh qex qso qb cAb g t) (ff := fun _ _ => False) (by decide) ?_
  intro p e s m below meth c A C0 hin hsz9 hA hE hK hP hD
  obtain ⟨hx, hb, hml, hown, hts, hr, hlocks⟩ := id C0
  have hS : va_S A s.heap s.heap [] := va_S.rf
  have hl := lv_entry [.ref h0] (n := 1) (Nat.le_of_ble_eq_true rfl)
  rw [lg_entry_eq]
  generalize (lg_sl [.ref h0] ++ List.replicate (1 - (lg_sl [.ref h0]).length) Slot.unset).toArray = ls at hl ⊢
  have hl : lv_has ls 1 [(0, .ref h0)] := hl
  refine lv_aload_n hx hb d_FW_paper_0 rfl (lv_at hl 0 rfl) ?_
  refine va_get (D := D) (ci := 0) (v := .ref qsh) (C := R_FW) (T := F_FW) (N := 3) hx hb hts i_FW hown hK hP 0 rfl rfl 0 (by decide) (hts _ kw_167_) (fun _ h9 => h9) rfl d_FW_paper_1 ?_
  refine kg_i (kr_V (C0 := R_Sheet) (ci := 1) (i0 := 0) (As := []) (rest := []) C0 (c_Sheet_length l D Z _ qsh qb cAb g t ) q_y_Sheet_length kw_263_ kw_264_ kw_265_ kw_89_ hd_y_Sheet_length rfl rfl ⟨Nat.le_of_ble_eq_true rfl, Nat.le_of_ble_eq_true rfl⟩ (hP.sub (ws' := [(qsh, .inr (1, [.ref qb, .int (iZ ((((t).length : Nat) : Int)))])), (qb, .inl (cAb, 1440, .inl g))]) [1, 2] rfl) (hD.sub (ws' := [(qsh, .inr (1, [.ref qb, .int (iZ ((((t).length : Nat) : Int)))])), (qb, .inl (cAb, 1440, .inl g))]) [1, 2] (by decide) rfl) (hK.sub (tys' := [(cAb, .byte)]) [0] rfl) hE hS (va_free (wc := [(qsh, .inr (1, [.ref qb, .int (iZ ((((t).length : Nat) : Int)))])), (qb, .inl (cAb, 1440, .inl g))]) hD hS hA [1, 2] rfl) rfl rfl rfl hl.1 rfl (Nat.le_of_ble_eq_true rfl) d_FW_paper_4 ⟨Nat.le_of_ble_eq_true rfl, Nat.le_of_ble_eq_true rfl⟩) (fun r hr1 => ?_)
  obtain rfl : r = iZ ((((t).length : Nat) : Int)) := hr1
  exact er_i hx hb hr hlocks d_FW_paper_7 (show iZ ((((t).length : Nat) : Int)) = iZ ((((t).length : Nat) : Int)) from rfl)
abbrev Qc_FW_paperAt (D : va_G) (h0 : Nat) (qsh : Nat) (qex : Nat) (qso : Nat) (qb : Nat) (cAb : ClassId) (g : Nat → Int32) (t : List Nat) (i : Int) (A : Nat → Prop) : Array Value → State → Outcome → State → Prop := vp_Sl (fun r : Int64 => r = lN (eiT t i 8))
set_option maxHeartbeats 4000000 in
set_option maxRecDepth 100000 in
theorem c_FW_paperAt (l : Launch) (D : va_G) (Z : Nat → Nat) (hz9 : Nat) (h0 : Nat) (qsh : Nat) (qex : Nat) (qso : Nat) (qb : Nat) (cAb : ClassId) (g : Nat → Int32) (t : List Nat) (i : Int) (hT : PaperIs g t) (hi : -2147483648 ≤ i ∧ i < 2147483648) : Met l y_FW_paperAt (.code y_FW_paperAt b_FW_paperAt 2 (some .long) :: gT) ({ frames := 1, cells := 0, slots := 0, locals := 26 } : Room) (va_Pc [.ref h0, .int (iZ (i))] (cpre D Z [(h0, .inr (0, [.ref qsh, .ref qex, .ref qso])), (qsh, .inr (1, [.ref qb, .int (iZ ((((t).length : Nat) : Int)))])), (qb, .inl (cAb, 1440, .inl g))] [(cAb, .byte)] hz9)) (Qc_FW_paperAt D h0 qsh qex qso qb cAb g t i (va_A [(h0, .inr (0, [.ref qsh, .ref qex, .ref qso])), (qsh, .inr (1, [.ref qb, .int (iZ ((((t).length : Nat) : Int)))])), (qb, .inl (cAb, 1440, .inl g))] hz9)) 0 0 (fun _ => False) := by
  refine met_go (Qf := Qc_FW_paperAt D h0 qsh qex qso qb cAb g t i) (ff := fun _ _ => False) (by decide) ?_
  intro p e s m below meth c A C0 hin hsz9 hA hE hK hP hD
  obtain ⟨hx, hb, hml, hown, hts, hr, hlocks⟩ := id C0
  have hS : va_S A s.heap s.heap [] := va_S.rf
  have hl := lv_entry [.ref h0, .int (iZ (i))] (n := 2) (Nat.le_of_ble_eq_true rfl)
  rw [lg_entry_eq]
  generalize (lg_sl [.ref h0, .int (iZ (i))] ++ List.replicate (2 - (lg_sl [.ref h0, .int (iZ (i))]).length) Slot.unset).toArray = ls at hl ⊢
  have hl : lv_has ls 2 [(0, .ref h0), (1, .int (iZ (i)))] := hl
  refine lv_aload_n hx hb d_FW_paperAt_0 rfl (lv_at hl 0 rfl) ?_
  refine va_get (D := D) (ci := 0) (v := .ref qsh) (C := R_FW) (T := F_FW) (N := 3) hx hb hts i_FW hown hK hP 0 rfl rfl 0 (by decide) (hts _ kw_167_) (fun _ h9 => h9) rfl d_FW_paperAt_1 ?_
  refine lv_iload_n hx hb d_FW_paperAt_4 rfl (lv_at hl 1 rfl) ?_
  refine kg_l (kr_V (C0 := R_Sheet) (ci := 1) (i0 := 0) (As := [.int (iZ (i))]) (rest := []) C0 (c_Sheet_eightFrom l D Z _ qsh qb cAb g t i (by assumption) (by omega)) q_y_Sheet_eightFrom kw_272_ kw_273_ kw_274_ kw_89_ hd_y_Sheet_eightFrom rfl rfl ⟨Nat.le_of_ble_eq_true rfl, Nat.le_of_ble_eq_true rfl⟩ (hP.sub (ws' := [(qsh, .inr (1, [.ref qb, .int (iZ ((((t).length : Nat) : Int)))])), (qb, .inl (cAb, 1440, .inl g))]) [1, 2] rfl) (hD.sub (ws' := [(qsh, .inr (1, [.ref qb, .int (iZ ((((t).length : Nat) : Int)))])), (qb, .inl (cAb, 1440, .inl g))]) [1, 2] (by decide) rfl) (hK.sub (tys' := [(cAb, .byte)]) [0] rfl) hE hS (va_free (wc := [(qsh, .inr (1, [.ref qb, .int (iZ ((((t).length : Nat) : Int)))])), (qb, .inl (cAb, 1440, .inl g))]) hD hS hA [1, 2] rfl) rfl rfl rfl hl.1 rfl (Nat.le_of_ble_eq_true rfl) d_FW_paperAt_5 ⟨Nat.le_of_ble_eq_true rfl, Nat.le_of_ble_eq_true rfl⟩) (fun r hr1 => ?_)
  obtain rfl : r = lN (eiT t i 8) := hr1
  exact er_l hx hb hr hlocks d_FW_paperAt_8 (show lN (eiT t i 8) = lN (eiT t i 8) from rfl)
