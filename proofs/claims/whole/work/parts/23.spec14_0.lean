theorem kw_206_ : Cond.methodLink R_FW 41 y_FW_writeSign ∈ gT := gT_in 268 (by decide +kernel) (by decide +kernel)
theorem kw_207_ : Cond.instanceMethod y_FW_writeSign ∈ gT := gT_in 270 (by decide +kernel) (by decide +kernel)
theorem kw_208_ : Cond.selects R_FW y_FW_writeSign y_FW_writeSign ∈ gT := gT_sel (by decide +kernel) (by decide +kernel)
theorem kw_209_ : Cond.methodLink R_FW 173 y_Sheet_putText ∈ gT := gT_in 281 (by decide +kernel) (by decide +kernel)
theorem kw_210_ : Cond.instanceMethod y_Sheet_putText ∈ gT := gT_in 282 (by decide +kernel) (by decide +kernel)
theorem kw_211_ : Cond.selects R_Sheet y_Sheet_putText y_Sheet_putText ∈ gT := gT_in 283 (by decide +kernel) (by decide +kernel)
set_option maxRecDepth 100000 in
theorem q_y_FW_writeSign : Cond.code y_FW_writeSign b_FW_writeSign 4 none ∈ gT := gT_in 271 rfl rfl
set_option maxRecDepth 100000 in
theorem q_y_Sheet_putText : Cond.code y_Sheet_putText b_Sheet_putText 3 none ∈ gT := gT_in 284 rfl rfl
theorem hd_y_FW_writeSign : y_FW_writeSign.cls ≠ "java/lang/invoke/MethodHandle" ∧ y_FW_writeSign.cls ≠ "java/lang/invoke/VarHandle" ∧ (parseMethodDescriptor y_FW_writeSign.desc).map (fun d => d.parameters.length) = some 2 := by decide +kernel
theorem hd_y_Sheet_putText : y_Sheet_putText.cls ≠ "java/lang/invoke/MethodHandle" ∧ y_Sheet_putText.cls ≠ "java/lang/invoke/VarHandle" ∧ (parseMethodDescriptor y_Sheet_putText.desc).map (fun d => d.parameters.length) = some 1 := by decide +kernel
theorem d_FW_writeNotFinite_0 : decode b_FW_writeNotFinite 0 = .ok (.lload_n 1, 1) := by decide +kernel
theorem d_FW_writeNotFinite_1 : decode b_FW_writeNotFinite 1 = .ok (.iload_n 3, 1) := by decide +kernel
theorem d_FW_writeNotFinite_2 : decode b_FW_writeNotFinite 2 = .ok (.invokestatic 97, 3) := by decide +kernel
theorem d_FW_writeNotFinite_5 : decode b_FW_writeNotFinite 5 = .ok (.iload_n 3, 1) := by decide +kernel
theorem d_FW_writeNotFinite_6 : decode b_FW_writeNotFinite 6 = .ok (.invokestatic 100, 3) := by decide +kernel
theorem d_FW_writeNotFinite_9 : decode b_FW_writeNotFinite 9 = .ok (.lcmp, 1) := by decide +kernel
theorem d_FW_writeNotFinite_10 : decode b_FW_writeNotFinite 10 = .ok (.ifCond .le 15, 3) := by decide +kernel
theorem d_FW_writeNotFinite_13 : decode b_FW_writeNotFinite 13 = .ok (.aload_n 0, 1) := by decide +kernel
theorem d_FW_writeNotFinite_14 : decode b_FW_writeNotFinite 14 = .ok (.getfield 10, 3) := by decide +kernel
theorem d_FW_writeNotFinite_17 : decode b_FW_writeNotFinite 17 = .ok (.ldc 171, 2) := by decide +kernel
theorem d_FW_writeNotFinite_19 : decode b_FW_writeNotFinite 19 = .ok (.invokevirtual 173, 3) := by decide +kernel
theorem d_FW_writeNotFinite_22 : decode b_FW_writeNotFinite 22 = .ok (.goto 18, 3) := by decide +kernel
theorem d_FW_writeNotFinite_25 : decode b_FW_writeNotFinite 25 = .ok (.aload_n 0, 1) := by decide +kernel
theorem d_FW_writeNotFinite_26 : decode b_FW_writeNotFinite 26 = .ok (.lload_n 1, 1) := by decide +kernel
theorem d_FW_writeNotFinite_27 : decode b_FW_writeNotFinite 27 = .ok (.iload_n 3, 1) := by decide +kernel
theorem d_FW_writeNotFinite_28 : decode b_FW_writeNotFinite 28 = .ok (.invokevirtual 41, 3) := by decide +kernel
theorem d_FW_writeNotFinite_31 : decode b_FW_writeNotFinite 31 = .ok (.aload_n 0, 1) := by decide +kernel
theorem d_FW_writeNotFinite_32 : decode b_FW_writeNotFinite 32 = .ok (.getfield 10, 3) := by decide +kernel
theorem d_FW_writeNotFinite_35 : decode b_FW_writeNotFinite 35 = .ok (.ldc 176, 2) := by decide +kernel
theorem d_FW_writeNotFinite_37 : decode b_FW_writeNotFinite 37 = .ok (.invokevirtual 173, 3) := by decide +kernel
theorem d_FW_writeNotFinite_40 : decode b_FW_writeNotFinite 40 = .ok (.return_, 1) := by decide +kernel
abbrev Qc_FW_writeNotFinite (D : va_G) (h0 : Nat) (qsh : Nat) (qex : Nat) (qso : Nat) (qb : Nat) (cAb : ClassId) (g : Nat → Int32) (t : List Nat) (b : Nat) (nw : Bool) (A : Nat → Prop) : Array Value → State → Outcome → State → Prop := va_Qv (fun u : Nat → Int32 => PaperIs u (t ++ nnT b nw)) (fun (u : Nat → Int32) t9 => cpost D A [(h0, .inr (0, [.ref qsh, .ref qex, .ref qso])), (qsh, .inr (1, [.ref qb, .int (iZ ((((t ++ nnT b nw).length : Nat) : Int)))])), (qb, .inl (cAb, 1440, .inl u))] [(cAb, .byte)] t9) A
set_option maxHeartbeats 4000000 in
set_option maxRecDepth 100000 in
theorem c_FW_writeNotFinite (l : Launch) (D : va_G) (Z : Nat → Nat) (hz9 : Nat) (h0 : Nat) (qsh : Nat) (qex : Nat) (qso : Nat) (qb : Nat) (cAb : ClassId) (g : Nat → Int32) (t : List Nat) (b : Nat) (nw : Bool) (hT : PaperIs g t) (hb9 : b < 18446744073709551616) (hl8 : t.length ≤ 10) : Met l y_FW_writeNotFinite (.code y_FW_writeNotFinite b_FW_writeNotFinite 4 none :: gT) ({ frames := 5, cells := 0, slots := 0, locals := 107 } : Room) (va_Pc [.ref h0, .long (lN (b)), .int (bZ (nw = true))] (cpre D Z [(h0, .inr (0, [.ref qsh, .ref qex, .ref qso])), (qsh, .inr (1, [.ref qb, .int (iZ ((((t).length : Nat) : Int)))])), (qb, .inl (cAb, 1440, .inl g))] [(cAb, .byte)] hz9)) (Qc_FW_writeNotFinite D h0 qsh qex qso qb cAb g t b nw (va_A [(h0, .inr (0, [.ref qsh, .ref qex, .ref qso])), (qsh, .inr (1, [.ref qb, .int (iZ ((((t).length : Nat) : Int)))])), (qb, .inl (cAb, 1440, .inl g))] hz9)) 0 0 (va_A [(h0, .inr (0, [.ref qsh, .ref qex, .ref qso])), (qsh, .inr (1, [.ref qb, .int (iZ ((((t).length : Nat) : Int)))])), (qb, .inl (cAb, 1440, .inl g))] hz9) := by
  refine met_go (Qf := Qc_FW_writeNotFinite D h0 qsh qex qso qb cAb g t b nw) (ff := fun A => A) (by decide) ?_
  intro p e s m below meth c A C0 hin hsz9 hA hE hK hP hD
  obtain ⟨hx, hb, hml, hown, hts, hr, hlocks⟩ := id C0
  have hS : va_S A s.heap s.heap [] := va_S.rf
  have hl := lv_entry [.ref h0, .long (lN (b)), .int (bZ (nw = true))] (n := 4) (Nat.le_of_ble_eq_true rfl)
  rw [lg_entry_eq]
  generalize (lg_sl [.ref h0, .long (lN (b)), .int (bZ (nw = true))] ++ List.replicate (4 - (lg_sl [.ref h0, .long (lN (b)), .int (bZ (nw = true))]).length) Slot.unset).toArray = ls at hl ⊢
  have hl : lv_has ls 4 [(0, .ref h0), (1, .long (lN (b))), (3, .int (bZ (nw = true)))] := hl
  have hsg := sgT_len b nw
  refine lv_lload_n hx hb d_FW_writeNotFinite_0 rfl (lv_at hl 1 rfl) ?_
  refine lv_iload_n hx hb d_FW_writeNotFinite_1 rfl (lv_at hl 2 rfl) ?_
  refine kg_l (kr_S (As := [.long (lN (b)), .int (bZ (nw = true))]) (rest := []) C0 (c_FW_sizeBits l D Z _ b nw (by assumption)) q_y_FW_sizeBits kw_7_ kw_6_ kw_3_ hd_y_FW_sizeBits rfl rfl ⟨Nat.le_of_ble_eq_true rfl, Nat.le_of_ble_eq_true rfl⟩ (hP.sub (ws' := []) [] rfl) (hD.sub (ws' := []) [] (by decide) rfl) (hK.sub (tys' := []) [] rfl) hE hS (va_free (wc := []) hD hS hA [] rfl) rfl hl.1 rfl (Nat.le_of_ble_eq_true rfl) d_FW_writeNotFinite_2 ⟨Nat.le_of_ble_eq_true rfl, Nat.le_of_ble_eq_true rfl⟩) (fun r hr1 => ?_)
  obtain rfl : r = lN (fSz b nw) := hr1
  refine lv_iload_n hx hb d_FW_writeNotFinite_5 rfl (lv_at hl 2 rfl) ?_
  refine kg_l (kr_S (As := [.int (bZ (nw = true))]) (rest := [.long (lN (fSz b nw))]) C0 (c_FW_infinity l D Z _ nw ) q_y_FW_infinity kw_9_ kw_8_ kw_3_ hd_y_FW_infinity rfl rfl ⟨Nat.le_of_ble_eq_true rfl, Nat.le_of_ble_eq_true rfl⟩ (hP.sub (ws' := []) [] rfl) (hD.sub (ws' := []) [] (by decide) rfl) (hK.sub (tys' := []) [] rfl) hE hS (va_free (wc := []) hD hS hA [] rfl) rfl hl.1 rfl (Nat.le_of_ble_eq_true rfl) d_FW_writeNotFinite_6 ⟨Nat.le_of_ble_eq_true rfl, Nat.le_of_ble_eq_true rfl⟩) (fun r hr1 => ?_)
  obtain rfl : r = lN (fI nw) := hr1
  refine nv_lcmp_le (tgt := 25) hx hb d_FW_writeNotFinite_9 d_FW_writeNotFinite_10 (by decide) (fSz_lt b nw) (fI_lt nw) (fun c9 => ?_) (fun c9 => ?_)
  · refine lv_aload_n hx hb d_FW_writeNotFinite_25 rfl (lv_at hl 0 rfl) ?_
    refine lv_lload_n hx hb d_FW_writeNotFinite_26 rfl (lv_at hl 1 rfl) ?_
    refine lv_iload_n hx hb d_FW_writeNotFinite_27 rfl (lv_at hl 2 rfl) ?_
    refine kw_v (wr := []) (tr := []) (kr_V (C0 := R_FW) (ci := 0) (i0 := 0) (As := [.long (lN (b)), .int (bZ (nw = true))]) (rest := []) C0 (c_FW_writeSign l D Z _ h0 qsh qex qso qb cAb g t b nw (by assumption) (by assumption) (by omega)) q_y_FW_writeSign kw_206_ kw_207_ kw_208_ kw_3_ hd_y_FW_writeSign rfl rfl ⟨Nat.le_of_ble_eq_true rfl, Nat.le_of_ble_eq_true rfl⟩ (hP.sub (ws' := [(h0, .inr (0, [.ref qsh, .ref qex, .ref qso])), (qsh, .inr (1, [.ref qb, .int (iZ ((((t).length : Nat) : Int)))])), (qb, .inl (cAb, 1440, .inl g))]) [0, 1, 2] rfl) (hD.sub (ws' := [(h0, .inr (0, [.ref qsh, .ref qex, .ref qso])), (qsh, .inr (1, [.ref qb, .int (iZ ((((t).length : Nat) : Int)))])), (qb, .inl (cAb, 1440, .inl g))]) [0, 1, 2] (by decide) rfl) (hK.sub (tys' := [(cAb, .byte)]) [0] rfl) hE hS (va_free (wc := [(h0, .inr (0, [.ref qsh, .ref qex, .ref qso])), (qsh, .inr (1, [.ref qb, .int (iZ ((((t).length : Nat) : Int)))])), (qb, .inl (cAb, 1440, .inl g))]) hD hS hA [0, 1, 2] rfl) rfl rfl rfl hl.1 rfl (Nat.le_of_ble_eq_true rfl) d_FW_writeNotFinite_28 ⟨Nat.le_of_ble_eq_true rfl, Nat.le_of_ble_eq_true rfl⟩) hP hD hK hS hA [0, 1, 2] [] [] rfl rfl (by decide) (by decide) rfl (fun g28 H locs hpost hP hD hK hS => ?_)
    have hw28 : PaperIs g28 (t ++ sgT b nw) := hpost
    have hP : va_P D classes [(h0, .inr (0, [.ref qsh, .ref qex, .ref qso])), (qsh, .inr (1, [.ref qb, .int (iZ ((((t ++ sgT b nw).length : Nat) : Int)))])), (qb, .inl (cAb, 1440, .inl g28))] H := hP
    have hD : va_D A [(h0, .inr (0, [.ref qsh, .ref qex, .ref qso])), (qsh, .inr (1, [.ref qb, .int (iZ ((((t ++ sgT b nw).length : Nat) : Int)))])), (qb, .inl (cAb, 1440, .inl g28))] := hD
    have hK : va_K D classes [(cAb, .byte)] s := hK
    refine lv_aload_n hx hb d_FW_writeNotFinite_31 rfl (lv_at hl 0 rfl) ?_
    refine va_get (D := D) (ci := 0) (v := .ref qsh) (C := R_FW) (T := F_FW) (N := 3) hx hb hts i_FW hown hK hP 0 rfl rfl 0 (by decide) (hts _ kw_167_) (fun _ h9 => h9) rfl d_FW_writeNotFinite_32 ?_
    refine va_ldcS hx hb hown (hE.txt 4 (by decide)) d_FW_writeNotFinite_35 ?_
    refine kw_v (wr := [(h0, .inr (0, [.ref qsh, .ref qex, .ref qso]))]) (tr := []) (kr_V (C0 := R_Sheet) (ci := 1) (i0 := 0) (As := [.ref (Z (1 + 2 * 4))]) (rest := []) C0 (c_Sheet_putText l D Z _ qsh qb cAb g28 (t ++ sgT b nw) 4 (by assumption) (by decide) (by rw [List.length_append]; omega)) q_y_Sheet_putText kw_209_ kw_210_ kw_211_ kw_89_ hd_y_Sheet_putText rfl rfl ⟨Nat.le_of_ble_eq_true rfl, Nat.le_of_ble_eq_true rfl⟩ (hP.sub (ws' := [(qsh, .inr (1, [.ref qb, .int (iZ (((((t ++ sgT b nw)).length : Nat) : Int)))])), (qb, .inl (cAb, 1440, .inl g28))]) [1, 2] rfl) (hD.sub (ws' := [(qsh, .inr (1, [.ref qb, .int (iZ (((((t ++ sgT b nw)).length : Nat) : Int)))])), (qb, .inl (cAb, 1440, .inl g28))]) [1, 2] (by decide) rfl) (hK.sub (tys' := [(cAb, .byte)]) [0] rfl) hE hS (va_free (wc := [(qsh, .inr (1, [.ref qb, .int (iZ (((((t ++ sgT b nw)).length : Nat) : Int)))])), (qb, .inl (cAb, 1440, .inl g28))]) hD hS hA [1, 2] rfl) rfl rfl rfl hl.1 rfl (Nat.le_of_ble_eq_true rfl) d_FW_writeNotFinite_37 ⟨Nat.le_of_ble_eq_true rfl, Nat.le_of_ble_eq_true rfl⟩) hP hD hK hS hA [1, 2] [0] [] rfl rfl (by decide) (by decide) rfl (fun g37 H locs hpost hP hD hK hS => ?_)
    have hw37 : PaperIs g37 ((t ++ sgT b nw) ++ txB.getD 4 []) := hpost
    have hP : va_P D classes [(h0, .inr (0, [.ref qsh, .ref qex, .ref qso])), (qsh, .inr (1, [.ref qb, .int (iZ (((((t ++ sgT b nw) ++ txB.getD 4 []).length : Nat) : Int)))])), (qb, .inl (cAb, 1440, .inl g37))] H := hP
    have hD : va_D A [(h0, .inr (0, [.ref qsh, .ref qex, .ref qso])), (qsh, .inr (1, [.ref qb, .int (iZ (((((t ++ sgT b nw) ++ txB.getD 4 []).length : Nat) : Int)))])), (qb, .inl (cAb, 1440, .inl g37))] := hD
    have hK : va_K D classes [(cAb, .byte)] s := hK
    have hTx : t ++ nnT b nw = (t ++ sgT b nw) ++ txB.getD 4 [] := by unfold nnT; rw [if_neg (by omega)]; simp only [List.append_assoc]
    have hP : va_P D classes [(h0, .inr (0, [.ref qsh, .ref qex, .ref qso])), (qsh, .inr (1, [.ref qb, .int (iZ ((((t ++ nnT b nw).length : Nat) : Int)))])), (qb, .inl (cAb, 1440, .inl g37))] H := by rw [hTx]; exact hP
    have hD : va_D A [(h0, .inr (0, [.ref qsh, .ref qex, .ref qso])), (qsh, .inr (1, [.ref qb, .int (iZ ((((t ++ nnT b nw).length : Nat) : Int)))])), (qb, .inl (cAb, 1440, .inl g37))] := by rw [hTx]; exact hD
    exact ew_v g37 hx hb hr hlocks d_FW_writeNotFinite_40 (show PaperIs g37 (t ++ nnT b nw) from by rw [hTx]; exact hw37) (hP.sub (ws' := [(h0, .inr (0, [.ref qsh, .ref qex, .ref qso])), (qsh, .inr (1, [.ref qb, .int (iZ ((((t ++ nnT b nw).length : Nat) : Int)))])), (qb, .inl (cAb, 1440, .inl g37))]) [0, 1, 2] rfl) (hD.sub (ws' := [(h0, .inr (0, [.ref qsh, .ref qex, .ref qso])), (qsh, .inr (1, [.ref qb, .int (iZ ((((t ++ nnT b nw).length : Nat) : Int)))])), (qb, .inl (cAb, 1440, .inl g37))]) [0, 1, 2] (by decide) rfl) (hK.sub (tys' := [(cAb, .byte)]) [0] rfl) hS (Nat.le_of_ble_eq_true rfl) (Nat.le_of_ble_eq_true rfl)
  · refine lv_aload_n hx hb d_FW_writeNotFinite_13 rfl (lv_at hl 0 rfl) ?_
    refine va_get (D := D) (ci := 0) (v := .ref qsh) (C := R_FW) (T := F_FW) (N := 3) hx hb hts i_FW hown hK hP 0 rfl rfl 0 (by decide) (hts _ kw_167_) (fun _ h9 => h9) rfl d_FW_writeNotFinite_14 ?_
    refine va_ldcS hx hb hown (hE.txt 3 (by decide)) d_FW_writeNotFinite_17 ?_
    refine kw_v (wr := [(h0, .inr (0, [.ref qsh, .ref qex, .ref qso]))]) (tr := []) (kr_V (C0 := R_Sheet) (ci := 1) (i0 := 0) (As := [.ref (Z (1 + 2 * 3))]) (rest := []) C0 (c_Sheet_putText l D Z _ qsh qb cAb g t 3 (by assumption) (by decide) (by omega)) q_y_Sheet_putText kw_209_ kw_210_ kw_211_ kw_89_ hd_y_Sheet_putText rfl rfl ⟨Nat.le_of_ble_eq_true rfl, Nat.le_of_ble_eq_true rfl⟩ (hP.sub (ws' := [(qsh, .inr (1, [.ref qb, .int (iZ ((((t).length : Nat) : Int)))])), (qb, .inl (cAb, 1440, .inl g))]) [1, 2] rfl) (hD.sub (ws' := [(qsh, .inr (1, [.ref qb, .int (iZ ((((t).length : Nat) : Int)))])), (qb, .inl (cAb, 1440, .inl g))]) [1, 2] (by decide) rfl) (hK.sub (tys' := [(cAb, .byte)]) [0] rfl) hE hS (va_free (wc := [(qsh, .inr (1, [.ref qb, .int (iZ ((((t).length : Nat) : Int)))])), (qb, .inl (cAb, 1440, .inl g))]) hD hS hA [1, 2] rfl) rfl rfl rfl hl.1 rfl (Nat.le_of_ble_eq_true rfl) d_FW_writeNotFinite_19 ⟨Nat.le_of_ble_eq_true rfl, Nat.le_of_ble_eq_true rfl⟩) hP hD hK hS hA [1, 2] [0] [] rfl rfl (by decide) (by decide) rfl (fun g19 H locs hpost hP hD hK hS => ?_)
    have hw19 : PaperIs g19 (t ++ txB.getD 3 []) := hpost
    have hP : va_P D classes [(h0, .inr (0, [.ref qsh, .ref qex, .ref qso])), (qsh, .inr (1, [.ref qb, .int (iZ ((((t ++ txB.getD 3 []).length : Nat) : Int)))])), (qb, .inl (cAb, 1440, .inl g19))] H := hP
    have hD : va_D A [(h0, .inr (0, [.ref qsh, .ref qex, .ref qso])), (qsh, .inr (1, [.ref qb, .int (iZ ((((t ++ txB.getD 3 []).length : Nat) : Int)))])), (qb, .inl (cAb, 1440, .inl g19))] := hD
    have hK : va_K D classes [(cAb, .byte)] s := hK
    refine lv_goto (tgt := 40) hx hb d_FW_writeNotFinite_22 (by decide) ?_
    have hTx : t ++ nnT b nw = t ++ txB.getD 3 [] := by unfold nnT; rw [if_pos (by omega)]
    have hP : va_P D classes [(h0, .inr (0, [.ref qsh, .ref qex, .ref qso])), (qsh, .inr (1, [.ref qb, .int (iZ ((((t ++ nnT b nw).length : Nat) : Int)))])), (qb, .inl (cAb, 1440, .inl g19))] H := by rw [hTx]; exact hP
    have hD : va_D A [(h0, .inr (0, [.ref qsh, .ref qex, .ref qso])), (qsh, .inr (1, [.ref qb, .int (iZ ((((t ++ nnT b nw).length : Nat) : Int)))])), (qb, .inl (cAb, 1440, .inl g19))] := by rw [hTx]; exact hD
    exact ew_v g19 hx hb hr hlocks d_FW_writeNotFinite_40 (show PaperIs g19 (t ++ nnT b nw) from by rw [hTx]; exact hw19) (hP.sub (ws' := [(h0, .inr (0, [.ref qsh, .ref qex, .ref qso])), (qsh, .inr (1, [.ref qb, .int (iZ ((((t ++ nnT b nw).length : Nat) : Int)))])), (qb, .inl (cAb, 1440, .inl g19))]) [0, 1, 2] rfl) (hD.sub (ws' := [(h0, .inr (0, [.ref qsh, .ref qex, .ref qso])), (qsh, .inr (1, [.ref qb, .int (iZ ((((t ++ nnT b nw).length : Nat) : Int)))])), (qb, .inl (cAb, 1440, .inl g19))]) [0, 1, 2] (by decide) rfl) (hK.sub (tys' := [(cAb, .byte)]) [0] rfl) hS (Nat.le_of_ble_eq_true rfl) (Nat.le_of_ble_eq_true rfl)
