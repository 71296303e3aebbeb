theorem kw_280_ : Cond.static y_FW_narrowedSize ∈ gT := gT_in 156 (by decide +kernel) (by decide +kernel)
theorem kw_281_ : Cond.methodLink R_FW 114 y_FW_narrowedSize ∈ gT := gT_in 155 (by decide +kernel) (by decide +kernel)
theorem kw_282_ : Cond.constantLong R_FW 112 (2143289344) ∈ gT := gT_in 151 (by decide +kernel) (by decide +kernel)
theorem kw_283_ : Cond.static y_FW_widenedSize ∈ gT := gT_in 621 (by decide +kernel) (by decide +kernel)
theorem kw_284_ : Cond.methodLink R_FW 122 y_FW_widenedSize ∈ gT := gT_in 620 (by decide +kernel) (by decide +kernel)
theorem kw_285_ : Cond.constantLong R_FW 120 (9221120237041090560) ∈ gT := gT_in 619 (by decide +kernel) (by decide +kernel)
set_option maxRecDepth 100000 in
theorem q_y_FW_narrowedSize : Cond.code y_FW_narrowedSize b_FW_narrowedSize 6 (some .long) ∈ gT := gT_in 157 rfl rfl
set_option maxRecDepth 100000 in
theorem q_y_FW_widenedSize : Cond.code y_FW_widenedSize b_FW_widenedSize 8 (some .long) ∈ gT := gT_in 622 rfl rfl
theorem hd_y_FW_narrowedSize : y_FW_narrowedSize.cls ≠ "java/lang/invoke/MethodHandle" ∧ y_FW_narrowedSize.cls ≠ "java/lang/invoke/VarHandle" ∧ (parseMethodDescriptor y_FW_narrowedSize.desc).map (fun d => d.parameters.length) = some 1 := by decide +kernel
theorem hd_y_FW_widenedSize : y_FW_widenedSize.cls ≠ "java/lang/invoke/MethodHandle" ∧ y_FW_widenedSize.cls ≠ "java/lang/invoke/VarHandle" ∧ (parseMethodDescriptor y_FW_widenedSize.desc).map (fun d => d.parameters.length) = some 1 := by decide +kernel
theorem d_FW_next_0 : decode b_FW_next 0 = .ok (.lload_n 1, 1) := by decide +kernel
theorem d_FW_next_1 : decode b_FW_next 1 = .ok (.iload_n 3, 1) := by decide +kernel
theorem d_FW_next_2 : decode b_FW_next 2 = .ok (.invokestatic 30, 3) := by decide +kernel
theorem d_FW_next_5 : decode b_FW_next 5 = .ok (.lload_n 1, 1) := by decide +kernel
theorem d_FW_next_6 : decode b_FW_next 6 = .ok (.iload_n 3, 1) := by decide +kernel
theorem d_FW_next_7 : decode b_FW_next 7 = .ok (.invokestatic 97, 3) := by decide +kernel
theorem d_FW_next_10 : decode b_FW_next 10 = .ok (.lstore 5, 2) := by decide +kernel
theorem d_FW_next_12 : decode b_FW_next 12 = .ok (.lload 5, 2) := by decide +kernel
theorem d_FW_next_14 : decode b_FW_next 14 = .ok (.iload_n 3, 1) := by decide +kernel
theorem d_FW_next_15 : decode b_FW_next 15 = .ok (.invokestatic 100, 3) := by decide +kernel
theorem d_FW_next_18 : decode b_FW_next 18 = .ok (.lcmp, 1) := by decide +kernel
theorem d_FW_next_19 : decode b_FW_next 19 = .ok (.ifCond .le 5, 3) := by decide +kernel
theorem d_FW_next_22 : decode b_FW_next 22 = .ok (.lload_n 1, 1) := by decide +kernel
theorem d_FW_next_23 : decode b_FW_next 23 = .ok (.lreturn, 1) := by decide +kernel
theorem d_FW_next_24 : decode b_FW_next 24 = .ok (.lload 5, 2) := by decide +kernel
theorem d_FW_next_26 : decode b_FW_next 26 = .ok (.lconst 0, 1) := by decide +kernel
theorem d_FW_next_27 : decode b_FW_next 27 = .ok (.lcmp, 1) := by decide +kernel
theorem d_FW_next_28 : decode b_FW_next 28 = .ok (.ifCond .ne 19, 3) := by decide +kernel
theorem d_FW_next_31 : decode b_FW_next 31 = .ok (.iload 4, 2) := by decide +kernel
theorem d_FW_next_33 : decode b_FW_next 33 = .ok (.ifCond .eq 7, 3) := by decide +kernel
theorem d_FW_next_36 : decode b_FW_next 36 = .ok (.lconst 1, 1) := by decide +kernel
theorem d_FW_next_37 : decode b_FW_next 37 = .ok (.goto 9, 3) := by decide +kernel
theorem d_FW_next_40 : decode b_FW_next 40 = .ok (.iload_n 3, 1) := by decide +kernel
theorem d_FW_next_41 : decode b_FW_next 41 = .ok (.invokestatic 104, 3) := by decide +kernel
theorem d_FW_next_44 : decode b_FW_next 44 = .ok (.lconst 1, 1) := by decide +kernel
theorem d_FW_next_45 : decode b_FW_next 45 = .ok (.lor, 1) := by decide +kernel
theorem d_FW_next_46 : decode b_FW_next 46 = .ok (.lreturn, 1) := by decide +kernel
theorem d_FW_next_47 : decode b_FW_next 47 = .ok (.lload_n 1, 1) := by decide +kernel
theorem d_FW_next_48 : decode b_FW_next 48 = .ok (.iload_n 3, 1) := by decide +kernel
theorem d_FW_next_49 : decode b_FW_next 49 = .ok (.invokestatic 107, 3) := by decide +kernel
theorem d_FW_next_52 : decode b_FW_next 52 = .ok (.iload 4, 2) := by decide +kernel
theorem d_FW_next_54 : decode b_FW_next 54 = .ok (.if_icmp .ne 7, 3) := by decide +kernel
theorem d_FW_next_57 : decode b_FW_next 57 = .ok (.iconst 1, 1) := by decide +kernel
theorem d_FW_next_58 : decode b_FW_next 58 = .ok (.goto 4, 3) := by decide +kernel
theorem d_FW_next_61 : decode b_FW_next 61 = .ok (.iconst 0, 1) := by decide +kernel
theorem d_FW_next_62 : decode b_FW_next 62 = .ok (.istore 7, 2) := by decide +kernel
theorem d_FW_next_64 : decode b_FW_next 64 = .ok (.iload 7, 2) := by decide +kernel
theorem d_FW_next_66 : decode b_FW_next 66 = .ok (.ifCond .eq 7, 3) := by decide +kernel
theorem d_FW_next_69 : decode b_FW_next 69 = .ok (.lload_n 1, 1) := by decide +kernel
theorem d_FW_next_70 : decode b_FW_next 70 = .ok (.lconst 1, 1) := by decide +kernel
theorem d_FW_next_71 : decode b_FW_next 71 = .ok (.lsub, 1) := by decide +kernel
theorem d_FW_next_72 : decode b_FW_next 72 = .ok (.lreturn, 1) := by decide +kernel
theorem d_FW_next_73 : decode b_FW_next 73 = .ok (.lload 5, 2) := by decide +kernel
theorem d_FW_next_75 : decode b_FW_next 75 = .ok (.iload_n 3, 1) := by decide +kernel
theorem d_FW_next_76 : decode b_FW_next 76 = .ok (.invokestatic 100, 3) := by decide +kernel
theorem d_FW_next_79 : decode b_FW_next 79 = .ok (.lcmp, 1) := by decide +kernel
theorem d_FW_next_80 : decode b_FW_next 80 = .ok (.ifCond .ne 7, 3) := by decide +kernel
theorem d_FW_next_83 : decode b_FW_next 83 = .ok (.lload_n 1, 1) := by decide +kernel
theorem d_FW_next_84 : decode b_FW_next 84 = .ok (.goto 6, 3) := by decide +kernel
theorem d_FW_next_87 : decode b_FW_next 87 = .ok (.lload_n 1, 1) := by decide +kernel
theorem d_FW_next_88 : decode b_FW_next 88 = .ok (.lconst 1, 1) := by decide +kernel
theorem d_FW_next_89 : decode b_FW_next 89 = .ok (.ladd, 1) := by decide +kernel
theorem d_FW_next_90 : decode b_FW_next 90 = .ok (.lreturn, 1) := by decide +kernel
theorem d_FW_narrowed_0 : decode b_FW_narrowed 0 = .ok (.lload_n 1, 1) := by decide +kernel
theorem d_FW_narrowed_1 : decode b_FW_narrowed 1 = .ok (.iconst 0, 1) := by decide +kernel
theorem d_FW_narrowed_2 : decode b_FW_narrowed 2 = .ok (.invokestatic 97, 3) := by decide +kernel
theorem d_FW_narrowed_5 : decode b_FW_narrowed 5 = .ok (.lstore_n 3, 1) := by decide +kernel
theorem d_FW_narrowed_6 : decode b_FW_narrowed 6 = .ok (.lload_n 3, 1) := by decide +kernel
theorem d_FW_narrowed_7 : decode b_FW_narrowed 7 = .ok (.ldc2_w 110, 3) := by decide +kernel
theorem d_FW_narrowed_10 : decode b_FW_narrowed 10 = .ok (.lcmp, 1) := by decide +kernel
theorem d_FW_narrowed_11 : decode b_FW_narrowed 11 = .ok (.ifCond .le 7, 3) := by decide +kernel
theorem d_FW_narrowed_14 : decode b_FW_narrowed 14 = .ok (.ldc2_w 112, 3) := by decide +kernel
theorem d_FW_narrowed_17 : decode b_FW_narrowed 17 = .ok (.lreturn, 1) := by decide +kernel
theorem d_FW_narrowed_18 : decode b_FW_narrowed 18 = .ok (.lload_n 1, 1) := by decide +kernel
theorem d_FW_narrowed_19 : decode b_FW_narrowed 19 = .ok (.iconst 0, 1) := by decide +kernel
theorem d_FW_narrowed_20 : decode b_FW_narrowed 20 = .ok (.invokestatic 107, 3) := by decide +kernel
theorem d_FW_narrowed_23 : decode b_FW_narrowed 23 = .ok (.ifCond .eq 10, 3) := by decide +kernel
theorem d_FW_narrowed_26 : decode b_FW_narrowed 26 = .ok (.iconst 1, 1) := by decide +kernel
theorem d_FW_narrowed_27 : decode b_FW_narrowed 27 = .ok (.invokestatic 104, 3) := by decide +kernel
theorem d_FW_narrowed_30 : decode b_FW_narrowed 30 = .ok (.goto 4, 3) := by decide +kernel
theorem d_FW_narrowed_33 : decode b_FW_narrowed 33 = .ok (.lconst 0, 1) := by decide +kernel
theorem d_FW_narrowed_34 : decode b_FW_narrowed 34 = .ok (.lstore 5, 2) := by decide +kernel
theorem d_FW_narrowed_36 : decode b_FW_narrowed 36 = .ok (.lload 5, 2) := by decide +kernel
theorem d_FW_narrowed_38 : decode b_FW_narrowed 38 = .ok (.lload_n 3, 1) := by decide +kernel
theorem d_FW_narrowed_39 : decode b_FW_narrowed 39 = .ok (.invokestatic 114, 3) := by decide +kernel
theorem d_FW_narrowed_42 : decode b_FW_narrowed 42 = .ok (.lor, 1) := by decide +kernel
theorem d_FW_narrowed_43 : decode b_FW_narrowed 43 = .ok (.lreturn, 1) := by decide +kernel
theorem d_FW_widened_0 : decode b_FW_widened 0 = .ok (.lload_n 1, 1) := by decide +kernel
theorem d_FW_widened_1 : decode b_FW_widened 1 = .ok (.iconst 1, 1) := by decide +kernel
theorem d_FW_widened_2 : decode b_FW_widened 2 = .ok (.invokestatic 30, 3) := by decide +kernel
theorem d_FW_widened_5 : decode b_FW_widened 5 = .ok (.lload_n 1, 1) := by decide +kernel
theorem d_FW_widened_6 : decode b_FW_widened 6 = .ok (.iconst 1, 1) := by decide +kernel
theorem d_FW_widened_7 : decode b_FW_widened 7 = .ok (.invokestatic 97, 3) := by decide +kernel
theorem d_FW_widened_10 : decode b_FW_widened 10 = .ok (.lstore_n 3, 1) := by decide +kernel
theorem d_FW_widened_11 : decode b_FW_widened 11 = .ok (.lload_n 3, 1) := by decide +kernel
theorem d_FW_widened_12 : decode b_FW_widened 12 = .ok (.ldc2_w 118, 3) := by decide +kernel
theorem d_FW_widened_15 : decode b_FW_widened 15 = .ok (.lcmp, 1) := by decide +kernel
theorem d_FW_widened_16 : decode b_FW_widened 16 = .ok (.ifCond .le 7, 3) := by decide +kernel
theorem d_FW_widened_19 : decode b_FW_widened 19 = .ok (.ldc2_w 120, 3) := by decide +kernel
theorem d_FW_widened_22 : decode b_FW_widened 22 = .ok (.lreturn, 1) := by decide +kernel
theorem d_FW_widened_23 : decode b_FW_widened 23 = .ok (.lload_n 1, 1) := by decide +kernel
theorem d_FW_widened_24 : decode b_FW_widened 24 = .ok (.iconst 1, 1) := by decide +kernel
theorem d_FW_widened_25 : decode b_FW_widened 25 = .ok (.invokestatic 107, 3) := by decide +kernel
theorem d_FW_widened_28 : decode b_FW_widened 28 = .ok (.ifCond .eq 10, 3) := by decide +kernel
theorem d_FW_widened_31 : decode b_FW_widened 31 = .ok (.iconst 0, 1) := by decide +kernel
theorem d_FW_widened_32 : decode b_FW_widened 32 = .ok (.invokestatic 104, 3) := by decide +kernel
theorem d_FW_widened_35 : decode b_FW_widened 35 = .ok (.goto 4, 3) := by decide +kernel
theorem d_FW_widened_38 : decode b_FW_widened 38 = .ok (.lconst 0, 1) := by decide +kernel
theorem d_FW_widened_39 : decode b_FW_widened 39 = .ok (.lstore 5, 2) := by decide +kernel
theorem d_FW_widened_41 : decode b_FW_widened 41 = .ok (.lload 5, 2) := by decide +kernel
theorem d_FW_widened_43 : decode b_FW_widened 43 = .ok (.lload_n 3, 1) := by decide +kernel
theorem d_FW_widened_44 : decode b_FW_widened 44 = .ok (.invokestatic 122, 3) := by decide +kernel
theorem d_FW_widened_47 : decode b_FW_widened 47 = .ok (.lor, 1) := by decide +kernel
theorem d_FW_widened_48 : decode b_FW_widened 48 = .ok (.lreturn, 1) := by decide +kernel
abbrev Qc_FW_next (D : va_G) (h0 : Nat) (qsh : Nat) (qex : Nat) (qso : Nat) (b : Nat) (nw : Bool) (up : Bool) (A : Nat → Prop) : Array Value → State → Outcome → State → Prop := vp_Sl (fun r : Int64 => r = lN (nxtF b nw up))
set_option maxHeartbeats 4000000 in
set_option maxRecDepth 100000 in
theorem c_FW_next (l : Launch) (D : va_G) (Z : Nat → Nat) (hz9 : Nat) (h0 : Nat) (qsh : Nat) (qex : Nat) (qso : Nat) (b : Nat) (nw : Bool) (up : Bool) (hb9 : b < 18446744073709551616) (hok : nw = true → b < 4294967296) : Met l y_FW_next (.code y_FW_next b_FW_next 8 (some .long) :: gT) ({ frames := 2, cells := 0, slots := 0, locals := 42 } : Room) (va_Pc [.ref h0, .long (lN (b)), .int (bZ (nw = true)), .int (bZ (up = true))] (cpre D Z [(h0, .inr (0, [.ref qsh, .ref qex, .ref qso]))] [] hz9)) (Qc_FW_next D h0 qsh qex qso b nw up (va_A [(h0, .inr (0, [.ref qsh, .ref qex, .ref qso]))] hz9)) 0 0 (fun _ => False) := by
  refine met_go (Qf := Qc_FW_next D h0 qsh qex qso b nw up) (ff := fun _ _ => False) (by decide) ?_
  intro p e s m below meth c A C0 hin hsz9 hA hE hK hP hD
  obtain ⟨hx, hb, hml, hown, hts, hr, hlocks⟩ := id C0
  have hS : va_S A s.heap s.heap [] := va_S.rf
  have hl := lv_entry [.ref h0, .long (lN (b)), .int (bZ (nw = true)), .int (bZ (up = true))] (n := 8) (Nat.le_of_ble_eq_true rfl)
  rw [lg_entry_eq]
  generalize (lg_sl [.ref h0, .long (lN (b)), .int (bZ (nw = true)), .int (bZ (up = true))] ++ List.replicate (8 - (lg_sl [.ref h0, .long (lN (b)), .int (bZ (nw = true)), .int (bZ (up = true))]).length) Slot.unset).toArray = ls at hl ⊢
  have hl : lv_has ls 8 [(0, .ref h0), (1, .long (lN (b))), (3, .int (bZ (nw = true))), (4, .int (bZ (up = true)))] := hl
  have hs1 := fSz_lt b nw
  have hs2 := fI_lt nw
  have hs3 := fS_lt nw
  refine lv_lload_n hx hb d_FW_next_0 rfl (lv_at hl 1 rfl) ?_
  refine lv_iload_n hx hb d_FW_next_1 rfl (lv_at hl 2 rfl) ?_
  refine kg_v (kr_S (As := [.long (lN (b)), .int (bZ (nw = true))]) (rest := []) C0 (c_FW_refuseHighBits l D Z _ b nw (by assumption) (by assumption)) q_y_FW_refuseHighBits kw_256_ kw_255_ kw_3_ hd_y_FW_refuseHighBits rfl rfl ⟨Nat.le_of_ble_eq_true rfl, Nat.le_of_ble_eq_true rfl⟩ (hP.sub (ws' := []) [] rfl) (hD.sub (ws' := []) [] (by decide) rfl) (hK.sub (tys' := []) [] rfl) hE hS (va_free (wc := []) hD hS hA [] rfl) rfl hl.1 rfl (Nat.le_of_ble_eq_true rfl) d_FW_next_2 ⟨Nat.le_of_ble_eq_true rfl, Nat.le_of_ble_eq_true rfl⟩) ?_
  refine lv_lload_n hx hb d_FW_next_5 rfl (lv_at hl 1 rfl) ?_
  refine lv_iload_n hx hb d_FW_next_6 rfl (lv_at hl 2 rfl) ?_
  refine kg_l (kr_S (As := [.long (lN (b)), .int (bZ (nw = true))]) (rest := []) C0 (c_FW_sizeBits l D Z _ b nw (by assumption)) q_y_FW_sizeBits kw_7_ kw_6_ kw_3_ hd_y_FW_sizeBits rfl rfl ⟨Nat.le_of_ble_eq_true rfl, Nat.le_of_ble_eq_true rfl⟩ (hP.sub (ws' := []) [] rfl) (hD.sub (ws' := []) [] (by decide) rfl) (hK.sub (tys' := []) [] rfl) hE hS (va_free (wc := []) hD hS hA [] rfl) rfl hl.1 rfl (Nat.le_of_ble_eq_true rfl) d_FW_next_7 ⟨Nat.le_of_ble_eq_true rfl, Nat.le_of_ble_eq_true rfl⟩) (fun r hr1 => ?_)
  obtain rfl : r = lN (fSz b nw) := hr1
  refine lv_lstore (lv' := [(5, .long (lN (fSz b nw))), (0, .ref h0), (1, .long (lN (b))), (3, .int (bZ (nw = true))), (4, .int (bZ (up = true)))]) hx hb d_FW_next_10 hl (by decide) rfl (fun ls hl => ?_)
  refine lv_lload hx hb d_FW_next_12 (lv_at hl 0 rfl) ?_
  refine lv_iload_n hx hb d_FW_next_14 rfl (lv_at hl 3 rfl) ?_
  refine kg_l (kr_S (As := [.int (bZ (nw = true))]) (rest := [.long (lN (fSz b nw))]) C0 (c_FW_infinity l D Z _ nw ) q_y_FW_infinity kw_9_ kw_8_ kw_3_ hd_y_FW_infinity rfl rfl ⟨Nat.le_of_ble_eq_true rfl, Nat.le_of_ble_eq_true rfl⟩ (hP.sub (ws' := []) [] rfl) (hD.sub (ws' := []) [] (by decide) rfl) (hK.sub (tys' := []) [] rfl) hE hS (va_free (wc := []) hD hS hA [] rfl) rfl hl.1 rfl (Nat.le_of_ble_eq_true rfl) d_FW_next_15 ⟨Nat.le_of_ble_eq_true rfl, Nat.le_of_ble_eq_true rfl⟩) (fun r hr1 => ?_)
  obtain rfl : r = lN (fI nw) := hr1
  refine nv_lcmp_le (tgt := 24) hx hb d_FW_next_18 d_FW_next_19 (by decide) (by omega) (by omega) (fun c18 => ?_) (fun c18 => ?_)
  · refine lv_lload hx hb d_FW_next_24 (lv_at hl 0 rfl) ?_
    refine lv_lconst (v := lN 0) hx hb d_FW_next_26 rfl ?_
    refine nv_lcmp_ne (tgt := 47) hx hb d_FW_next_27 d_FW_next_28 (by decide) (by omega) (by decide) (fun c27 => ?_) (fun c27 => ?_)
    · refine lv_lload_n hx hb d_FW_next_47 rfl (lv_at hl 2 rfl) ?_
      refine lv_iload_n hx hb d_FW_next_48 rfl (lv_at hl 3 rfl) ?_
      refine kg_i (kr_S (As := [.long (lN (b)), .int (bZ (nw = true))]) (rest := []) C0 (c_FW_isNegative l D Z _ b nw (by assumption)) q_y_FW_isNegative kw_166_ kw_165_ kw_3_ hd_y_FW_isNegative rfl rfl ⟨Nat.le_of_ble_eq_true rfl, Nat.le_of_ble_eq_true rfl⟩ (hP.sub (ws' := []) [] rfl) (hD.sub (ws' := []) [] (by decide) rfl) (hK.sub (tys' := []) [] rfl) hE hS (va_free (wc := []) hD hS hA [] rfl) rfl hl.1 rfl (Nat.le_of_ble_eq_true rfl) d_FW_next_49 ⟨Nat.le_of_ble_eq_true rfl, Nat.le_of_ble_eq_true rfl⟩) (fun r hr1 => ?_)
      obtain rfl : r = bZ (b / fS nw % 2 = 1) := hr1
      refine lv_iload hx hb d_FW_next_52 (lv_at hl 4 rfl) ?_
      refine bv_icmp_ne (tgt := 61) hx hb d_FW_next_54 (by decide) (fun c54 => ?_) (fun c54 => ?_)
      · have c54 : ¬ (b / fS nw % 2 = 1 ↔ up = true) := c54
        refine lv_iconst (v := iZ (0)) hx hb d_FW_next_61 rfl ?_
        refine zv_top (y := bZ ((b / fS nw % 2 = 1 ↔ up = true))) ((bZ_f c54).symm) ?_
        refine lv_istore (lv' := [(7, .int (bZ ((b / fS nw % 2 = 1 ↔ up = true)))), (5, .long (lN (fSz b nw))), (0, .ref h0), (1, .long (lN (b))), (3, .int (bZ (nw = true))), (4, .int (bZ (up = true)))]) hx hb d_FW_next_62 hl (by decide) rfl (fun ls hl => ?_)
        refine lv_iload hx hb d_FW_next_64 (lv_at hl 0 rfl) ?_
        refine bv_if_eq (tgt := 73) hx hb d_FW_next_66 (by decide) (fun c66 => ?_) (fun c66 => ?_)
        · refine lv_lload hx hb d_FW_next_73 (lv_at hl 1 rfl) ?_
          refine lv_iload_n hx hb d_FW_next_75 rfl (lv_at hl 4 rfl) ?_
          refine kg_l (kr_S (As := [.int (bZ (nw = true))]) (rest := [.long (lN (fSz b nw))]) C0 (c_FW_infinity l D Z _ nw ) q_y_FW_infinity kw_9_ kw_8_ kw_3_ hd_y_FW_infinity rfl rfl ⟨Nat.le_of_ble_eq_true rfl, Nat.le_of_ble_eq_true rfl⟩ (hP.sub (ws' := []) [] rfl) (hD.sub (ws' := []) [] (by decide) rfl) (hK.sub (tys' := []) [] rfl) hE hS (va_free (wc := []) hD hS hA [] rfl) rfl hl.1 rfl (Nat.le_of_ble_eq_true rfl) d_FW_next_76 ⟨Nat.le_of_ble_eq_true rfl, Nat.le_of_ble_eq_true rfl⟩) (fun r hr1 => ?_)
          obtain rfl : r = lN (fI nw) := hr1
          refine nv_lcmp_ne (tgt := 87) hx hb d_FW_next_79 d_FW_next_80 (by decide) (by omega) (by omega) (fun c79 => ?_) (fun c79 => ?_)
          · refine lv_lload_n hx hb d_FW_next_87 rfl (lv_at hl 3 rfl) ?_
            refine lv_lconst (v := lN 1) hx hb d_FW_next_88 rfl ?_
            refine nv_ladd hx hb d_FW_next_89 ?_
            exact er_l hx hb hr hlocks d_FW_next_90 (show lN (b + 1) = lN (nxtF b nw up) from congrArg lN (by unfold nxtF; rw [if_neg (by omega), if_neg c27, if_neg c66, if_neg c79]))
          · refine lv_lload_n hx hb d_FW_next_83 rfl (lv_at hl 3 rfl) ?_
            refine lv_goto (tgt := 90) hx hb d_FW_next_84 (by decide) ?_
            exact er_l hx hb hr hlocks d_FW_next_90 (show lN (b) = lN (nxtF b nw up) from congrArg lN (by unfold nxtF; rw [if_neg (by omega), if_neg c27, if_neg c66, if_pos c79]))
        · refine lv_lload_n hx hb d_FW_next_69 rfl (lv_at hl 3 rfl) ?_
          refine lv_lconst (v := lN 1) hx hb d_FW_next_70 rfl ?_
          refine nv_lsub hx hb d_FW_next_71 (Nat.le_trans (show 1 ≤ fSz b nw by omega) (Nat.mod_le b (fS nw))) ?_
          exact er_l hx hb hr hlocks d_FW_next_72 (show lN (b - 1) = lN (nxtF b nw up) from congrArg lN (by unfold nxtF; rw [if_neg (by omega), if_neg c27, if_pos c66]))
      · have c54 : (b / fS nw % 2 = 1 ↔ up = true) := c54
        refine lv_iconst (v := iZ (1)) hx hb d_FW_next_57 rfl ?_
        refine zv_top (y := bZ ((b / fS nw % 2 = 1 ↔ up = true))) ((bZ_t c54).symm) ?_
        refine lv_goto (tgt := 62) hx hb d_FW_next_58 (by decide) ?_
        refine lv_istore (lv' := [(7, .int (bZ ((b / fS nw % 2 = 1 ↔ up = true)))), (5, .long (lN (fSz b nw))), (0, .ref h0), (1, .long (lN (b))), (3, .int (bZ (nw = true))), (4, .int (bZ (up = true)))]) hx hb d_FW_next_62 hl (by decide) rfl (fun ls hl => ?_)
        refine lv_iload hx hb d_FW_next_64 (lv_at hl 0 rfl) ?_
        refine bv_if_eq (tgt := 73) hx hb d_FW_next_66 (by decide) (fun c66 => ?_) (fun c66 => ?_)
        · refine lv_lload hx hb d_FW_next_73 (lv_at hl 1 rfl) ?_
          refine lv_iload_n hx hb d_FW_next_75 rfl (lv_at hl 4 rfl) ?_
          refine kg_l (kr_S (As := [.int (bZ (nw = true))]) (rest := [.long (lN (fSz b nw))]) C0 (c_FW_infinity l D Z _ nw ) q_y_FW_infinity kw_9_ kw_8_ kw_3_ hd_y_FW_infinity rfl rfl ⟨Nat.le_of_ble_eq_true rfl, Nat.le_of_ble_eq_true rfl⟩ (hP.sub (ws' := []) [] rfl) (hD.sub (ws' := []) [] (by decide) rfl) (hK.sub (tys' := []) [] rfl) hE hS (va_free (wc := []) hD hS hA [] rfl) rfl hl.1 rfl (Nat.le_of_ble_eq_true rfl) d_FW_next_76 ⟨Nat.le_of_ble_eq_true rfl, Nat.le_of_ble_eq_true rfl⟩) (fun r hr1 => ?_)
          obtain rfl : r = lN (fI nw) := hr1
          refine nv_lcmp_ne (tgt := 87) hx hb d_FW_next_79 d_FW_next_80 (by decide) (by omega) (by omega) (fun c79 => ?_) (fun c79 => ?_)
          · refine lv_lload_n hx hb d_FW_next_87 rfl (lv_at hl 3 rfl) ?_
            refine lv_lconst (v := lN 1) hx hb d_FW_next_88 rfl ?_
            refine nv_ladd hx hb d_FW_next_89 ?_
            exact er_l hx hb hr hlocks d_FW_next_90 (show lN (b + 1) = lN (nxtF b nw up) from congrArg lN (by unfold nxtF; rw [if_neg (by omega), if_neg c27, if_neg c66, if_neg c79]))
          · refine lv_lload_n hx hb d_FW_next_83 rfl (lv_at hl 3 rfl) ?_
            refine lv_goto (tgt := 90) hx hb d_FW_next_84 (by decide) ?_
            exact er_l hx hb hr hlocks d_FW_next_90 (show lN (b) = lN (nxtF b nw up) from congrArg lN (by unfold nxtF; rw [if_neg (by omega), if_neg c27, if_neg c66, if_pos c79]))
        · refine lv_lload_n hx hb d_FW_next_69 rfl (lv_at hl 3 rfl) ?_
          refine lv_lconst (v := lN 1) hx hb d_FW_next_70 rfl ?_
          refine nv_lsub hx hb d_FW_next_71 (Nat.le_trans (show 1 ≤ fSz b nw by omega) (Nat.mod_le b (fS nw))) ?_
          exact er_l hx hb hr hlocks d_FW_next_72 (show lN (b - 1) = lN (nxtF b nw up) from congrArg lN (by unfold nxtF; rw [if_neg (by omega), if_neg c27, if_pos c66]))
    · refine lv_iload hx hb d_FW_next_31 (lv_at hl 4 rfl) ?_
      refine bv_if_eq (tgt := 40) hx hb d_FW_next_33 (by decide) (fun c33 => ?_) (fun c33 => ?_)
      · refine lv_iload_n hx hb d_FW_next_40 rfl (lv_at hl 3 rfl) ?_
        refine kg_l (kr_S (As := [.int (bZ (nw = true))]) (rest := []) C0 (c_FW_signBit l D Z _ nw ) q_y_FW_signBit kw_5_ kw_4_ kw_3_ hd_y_FW_signBit rfl rfl ⟨Nat.le_of_ble_eq_true rfl, Nat.le_of_ble_eq_true rfl⟩ (hP.sub (ws' := []) [] rfl) (hD.sub (ws' := []) [] (by decide) rfl) (hK.sub (tys' := []) [] rfl) hE hS (va_free (wc := []) hD hS hA [] rfl) rfl hl.1 rfl (Nat.le_of_ble_eq_true rfl) d_FW_next_41 ⟨Nat.le_of_ble_eq_true rfl, Nat.le_of_ble_eq_true rfl⟩) (fun r hr1 => ?_)
        obtain rfl : r = lN (fS nw) := hr1
        refine lv_lconst (v := lN 1) hx hb d_FW_next_44 rfl ?_
        refine nv_lor hx hb d_FW_next_45 (by omega) (by decide) ?_
        refine nv_top (y := lN (fS nw + 1)) (congrArg lN (by cases nw <;> decide)) ?_
        exact er_l hx hb hr hlocks d_FW_next_46 (show lN (fS nw + 1) = lN (nxtF b nw up) from congrArg lN (by unfold nxtF; rw [if_neg (by omega), if_pos c27, if_neg c33]))
      · refine lv_lconst (v := lN 1) hx hb d_FW_next_36 rfl ?_
        refine lv_goto (tgt := 46) hx hb d_FW_next_37 (by decide) ?_
        exact er_l hx hb hr hlocks d_FW_next_46 (show lN (1) = lN (nxtF b nw up) from congrArg lN (by unfold nxtF; rw [if_neg (by omega), if_pos c27, if_pos c33]))
  · refine lv_lload_n hx hb d_FW_next_22 rfl (lv_at hl 2 rfl) ?_
    exact er_l hx hb hr hlocks d_FW_next_23 (show lN (b) = lN (nxtF b nw up) from congrArg lN (by unfold nxtF; rw [if_pos (by omega)]))
abbrev Qc_FW_narrowed (D : va_G) (h0 : Nat) (qsh : Nat) (qex : Nat) (qso : Nat) (b : Nat) (A : Nat → Prop) : Array Value → State → Outcome → State → Prop := vp_Sl (fun r : Int64 => r = lN (narF b))
set_option maxHeartbeats 4000000 in
set_option maxRecDepth 100000 in
theorem c_FW_narrowed (l : Launch) (D : va_G) (Z : Nat → Nat) (hz9 : Nat) (h0 : Nat) (qsh : Nat) (qex : Nat) (qso : Nat) (b : Nat) (hb9 : b < 18446744073709551616) : Met l y_FW_narrowed (.code y_FW_narrowed b_FW_narrowed 7 (some .long) :: gT) ({ frames := 5, cells := 0, slots := 0, locals := 113 } : Room) (va_Pc [.ref h0, .long (lN (b))] (cpre D Z [(h0, .inr (0, [.ref qsh, .ref qex, .ref qso]))] [] hz9)) (Qc_FW_narrowed D h0 qsh qex qso b (va_A [(h0, .inr (0, [.ref qsh, .ref qex, .ref qso]))] hz9)) 0 0 (fun _ => False) := by
  refine met_go (Qf := Qc_FW_narrowed D h0 qsh qex qso b) (ff := fun _ _ => False) (by decide) ?_
  intro p e s m below meth c A C0 hin hsz9 hA hE hK hP hD
  obtain ⟨hx, hb, hml, hown, hts, hr, hlocks⟩ := id C0
  have hS : va_S A s.heap s.heap [] := va_S.rf
  have hl := lv_entry [.ref h0, .long (lN (b))] (n := 7) (Nat.le_of_ble_eq_true rfl)
  rw [lg_entry_eq]
  generalize (lg_sl [.ref h0, .long (lN (b))] ++ List.replicate (7 - (lg_sl [.ref h0, .long (lN (b))]).length) Slot.unset).toArray = ls at hl ⊢
  have hl : lv_has ls 7 [(0, .ref h0), (1, .long (lN (b)))] := hl
  have hs1 := fSz_lt b false
  refine lv_lload_n hx hb d_FW_narrowed_0 rfl (lv_at hl 1 rfl) ?_
  refine lv_iconst (v := iZ (0)) hx hb d_FW_narrowed_1 rfl ?_
  refine zv_top (y := bZ (false = true)) ((bZ_f (by decide)).symm) ?_
  refine kg_l (kr_S (As := [.long (lN (b)), .int (bZ (false = true))]) (rest := []) C0 (c_FW_sizeBits l D Z _ b false (by assumption)) q_y_FW_sizeBits kw_7_ kw_6_ kw_3_ hd_y_FW_sizeBits rfl rfl ⟨Nat.le_of_ble_eq_true rfl, Nat.le_of_ble_eq_true rfl⟩ (hP.sub (ws' := []) [] rfl) (hD.sub (ws' := []) [] (by decide) rfl) (hK.sub (tys' := []) [] rfl) hE hS (va_free (wc := []) hD hS hA [] rfl) rfl hl.1 rfl (Nat.le_of_ble_eq_true rfl) d_FW_narrowed_2 ⟨Nat.le_of_ble_eq_true rfl, Nat.le_of_ble_eq_true rfl⟩) (fun r hr1 => ?_)
  obtain rfl : r = lN (fSz b false) := hr1
  refine lv_lstore_n (lv' := [(3, .long (lN (fSz b false))), (0, .ref h0), (1, .long (lN (b)))]) hx hb d_FW_narrowed_5 rfl hl (by decide) rfl (fun ls hl => ?_)
  refine lv_lload_n hx hb d_FW_narrowed_6 rfl (lv_at hl 0 rfl) ?_
  refine lv_ldc2 (v := (9218868437227405312)) hx hb hown (hts _ kw_1_) d_FW_narrowed_7 ?_
  refine nv_top (y := lN 9218868437227405312) (by decide) ?_
  refine nv_lcmp_le (tgt := 18) hx hb d_FW_narrowed_10 d_FW_narrowed_11 (by decide) (by omega) (by decide) (fun c10 => ?_) (fun c10 => ?_)
  · refine lv_lload_n hx hb d_FW_narrowed_18 rfl (lv_at hl 2 rfl) ?_
    refine lv_iconst (v := iZ (0)) hx hb d_FW_narrowed_19 rfl ?_
    refine zv_top (y := bZ (false = true)) ((bZ_f (by decide)).symm) ?_
    refine kg_i (kr_S (As := [.long (lN (b)), .int (bZ (false = true))]) (rest := []) C0 (c_FW_isNegative l D Z _ b false (by assumption)) q_y_FW_isNegative kw_166_ kw_165_ kw_3_ hd_y_FW_isNegative rfl rfl ⟨Nat.le_of_ble_eq_true rfl, Nat.le_of_ble_eq_true rfl⟩ (hP.sub (ws' := []) [] rfl) (hD.sub (ws' := []) [] (by decide) rfl) (hK.sub (tys' := []) [] rfl) hE hS (va_free (wc := []) hD hS hA [] rfl) rfl hl.1 rfl (Nat.le_of_ble_eq_true rfl) d_FW_narrowed_20 ⟨Nat.le_of_ble_eq_true rfl, Nat.le_of_ble_eq_true rfl⟩) (fun r hr1 => ?_)
    obtain rfl : r = bZ (b / fS false % 2 = 1) := hr1
    refine bv_if_eq (tgt := 33) hx hb d_FW_narrowed_23 (by decide) (fun c23 => ?_) (fun c23 => ?_)
    · refine lv_lconst (v := lN 0) hx hb d_FW_narrowed_33 rfl ?_
      refine nv_top (y := lN (if b / fS false % 2 = 1 then fS true else 0)) (congrArg lN (by rw [if_neg c23])) ?_
      refine lv_lstore (lv' := [(5, .long (lN (if b / fS false % 2 = 1 then fS true else 0))), (3, .long (lN (fSz b false))), (0, .ref h0), (1, .long (lN (b)))]) hx hb d_FW_narrowed_34 hl (by decide) rfl (fun ls hl => ?_)
      refine lv_lload hx hb d_FW_narrowed_36 (lv_at hl 0 rfl) ?_
      refine lv_lload_n hx hb d_FW_narrowed_38 rfl (lv_at hl 1 rfl) ?_
      refine kg_l (kr_S (As := [.long (lN (fSz b false))]) (rest := [.long (lN (if b / fS false % 2 = 1 then fS true else 0))]) C0 (c_FW_narrowedSize l D Z _ (fSz b false) (by omega)) q_y_FW_narrowedSize kw_281_ kw_280_ kw_3_ hd_y_FW_narrowedSize rfl rfl ⟨Nat.le_of_ble_eq_true rfl, Nat.le_of_ble_eq_true rfl⟩ (hP.sub (ws' := []) [] rfl) (hD.sub (ws' := []) [] (by decide) rfl) (hK.sub (tys' := []) [] rfl) hE hS (va_free (wc := []) hD hS hA [] rfl) rfl hl.1 rfl (Nat.le_of_ble_eq_true rfl) d_FW_narrowed_39 ⟨Nat.le_of_ble_eq_true rfl, Nat.le_of_ble_eq_true rfl⟩) (fun r hr1 => ?_)
      obtain rfl : r = lN (nSz (fSz b false)) := hr1
      refine nv_lor hx hb d_FW_narrowed_42 (by split <;> decide) (by have := nSz_lt (x := fSz b false) (by omega); omega) ?_
      refine nv_top (y := lN ((if b / fS false % 2 = 1 then fS true else 0) + nSz (fSz b false))) (congrArg lN (nar_or (by omega))) ?_
      exact er_l hx hb hr hlocks d_FW_narrowed_43 (show lN ((if b / fS false % 2 = 1 then fS true else 0) + nSz (fSz b false)) = lN (narF b) from congrArg lN (by unfold narF; rw [if_neg (show ¬ 9218868437227405312 < fSz b false by omega)]))
    · refine lv_iconst (v := iZ (1)) hx hb d_FW_narrowed_26 rfl ?_
      refine zv_top (y := bZ (true = true)) ((bZ_t rfl).symm) ?_
      refine kg_l (kr_S (As := [.int (bZ (true = true))]) (rest := []) C0 (c_FW_signBit l D Z _ true ) q_y_FW_signBit kw_5_ kw_4_ kw_3_ hd_y_FW_signBit rfl rfl ⟨Nat.le_of_ble_eq_true rfl, Nat.le_of_ble_eq_true rfl⟩ (hP.sub (ws' := []) [] rfl) (hD.sub (ws' := []) [] (by decide) rfl) (hK.sub (tys' := []) [] rfl) hE hS (va_free (wc := []) hD hS hA [] rfl) rfl hl.1 rfl (Nat.le_of_ble_eq_true rfl) d_FW_narrowed_27 ⟨Nat.le_of_ble_eq_true rfl, Nat.le_of_ble_eq_true rfl⟩) (fun r hr1 => ?_)
      obtain rfl : r = lN (fS true) := hr1
      refine nv_top (y := lN (if b / fS false % 2 = 1 then fS true else 0)) (congrArg lN (by rw [if_pos c23])) ?_
      refine lv_goto (tgt := 34) hx hb d_FW_narrowed_30 (by decide) ?_
      refine lv_lstore (lv' := [(5, .long (lN (if b / fS false % 2 = 1 then fS true else 0))), (3, .long (lN (fSz b false))), (0, .ref h0), (1, .long (lN (b)))]) hx hb d_FW_narrowed_34 hl (by decide) rfl (fun ls hl => ?_)
      refine lv_lload hx hb d_FW_narrowed_36 (lv_at hl 0 rfl) ?_
      refine lv_lload_n hx hb d_FW_narrowed_38 rfl (lv_at hl 1 rfl) ?_
      refine kg_l (kr_S (As := [.long (lN (fSz b false))]) (rest := [.long (lN (if b / fS false % 2 = 1 then fS true else 0))]) C0 (c_FW_narrowedSize l D Z _ (fSz b false) (by omega)) q_y_FW_narrowedSize kw_281_ kw_280_ kw_3_ hd_y_FW_narrowedSize rfl rfl ⟨Nat.le_of_ble_eq_true rfl, Nat.le_of_ble_eq_true rfl⟩ (hP.sub (ws' := []) [] rfl) (hD.sub (ws' := []) [] (by decide) rfl) (hK.sub (tys' := []) [] rfl) hE hS (va_free (wc := []) hD hS hA [] rfl) rfl hl.1 rfl (Nat.le_of_ble_eq_true rfl) d_FW_narrowed_39 ⟨Nat.le_of_ble_eq_true rfl, Nat.le_of_ble_eq_true rfl⟩) (fun r hr1 => ?_)
      obtain rfl : r = lN (nSz (fSz b false)) := hr1
      refine nv_lor hx hb d_FW_narrowed_42 (by split <;> decide) (by have := nSz_lt (x := fSz b false) (by omega); omega) ?_
      refine nv_top (y := lN ((if b / fS false % 2 = 1 then fS true else 0) + nSz (fSz b false))) (congrArg lN (nar_or (by omega))) ?_
      exact er_l hx hb hr hlocks d_FW_narrowed_43 (show lN ((if b / fS false % 2 = 1 then fS true else 0) + nSz (fSz b false)) = lN (narF b) from congrArg lN (by unfold narF; rw [if_neg (show ¬ 9218868437227405312 < fSz b false by omega)]))
  · refine lv_ldc2 (v := (2143289344)) hx hb hown (hts _ kw_282_) d_FW_narrowed_14 ?_
    refine nv_top (y := lN 2143289344) (by decide) ?_
    exact er_l hx hb hr hlocks d_FW_narrowed_17 (show lN (2143289344) = lN (narF b) from congrArg lN (by unfold narF; rw [if_pos (by omega)]))
abbrev Qc_FW_widened (D : va_G) (h0 : Nat) (qsh : Nat) (qex : Nat) (qso : Nat) (b : Nat) (A : Nat → Prop) : Array Value → State → Outcome → State → Prop := vp_Sl (fun r : Int64 => r = lN (widF b))
set_option maxHeartbeats 4000000 in
set_option maxRecDepth 100000 in
theorem c_FW_widened (l : Launch) (D : va_G) (Z : Nat → Nat) (hz9 : Nat) (h0 : Nat) (qsh : Nat) (qex : Nat) (qso : Nat) (b : Nat) (hb9 : b < 18446744073709551616) (hok : b < 4294967296) : Met l y_FW_widened (.code y_FW_widened b_FW_widened 7 (some .long) :: gT) ({ frames := 4, cells := 0, slots := 0, locals := 91 } : Room) (va_Pc [.ref h0, .long (lN (b))] (cpre D Z [(h0, .inr (0, [.ref qsh, .ref qex, .ref qso]))] [] hz9)) (Qc_FW_widened D h0 qsh qex qso b (va_A [(h0, .inr (0, [.ref qsh, .ref qex, .ref qso]))] hz9)) 0 0 (fun _ => False) := by
  refine met_go (Qf := Qc_FW_widened D h0 qsh qex qso b) (ff := fun _ _ => False) (by decide) ?_
  intro p e s m below meth c A C0 hin hsz9 hA hE hK hP hD
  obtain ⟨hx, hb, hml, hown, hts, hr, hlocks⟩ := id C0
  have hS : va_S A s.heap s.heap [] := va_S.rf
  have hl := lv_entry [.ref h0, .long (lN (b))] (n := 7) (Nat.le_of_ble_eq_true rfl)
  rw [lg_entry_eq]
  generalize (lg_sl [.ref h0, .long (lN (b))] ++ List.replicate (7 - (lg_sl [.ref h0, .long (lN (b))]).length) Slot.unset).toArray = ls at hl ⊢
  have hl : lv_has ls 7 [(0, .ref h0), (1, .long (lN (b)))] := hl
  have hs1 := fSz_lt b true
  refine lv_lload_n hx hb d_FW_widened_0 rfl (lv_at hl 1 rfl) ?_
  refine lv_iconst (v := iZ (1)) hx hb d_FW_widened_1 rfl ?_
  refine zv_top (y := bZ (true = true)) ((bZ_t rfl).symm) ?_
  refine kg_v (kr_S (As := [.long (lN (b)), .int (bZ (true = true))]) (rest := []) C0 (c_FW_refuseHighBits l D Z _ b true (by assumption) (fun _ => hok)) q_y_FW_refuseHighBits kw_256_ kw_255_ kw_3_ hd_y_FW_refuseHighBits rfl rfl ⟨Nat.le_of_ble_eq_true rfl, Nat.le_of_ble_eq_true rfl⟩ (hP.sub (ws' := []) [] rfl) (hD.sub (ws' := []) [] (by decide) rfl) (hK.sub (tys' := []) [] rfl) hE hS (va_free (wc := []) hD hS hA [] rfl) rfl hl.1 rfl (Nat.le_of_ble_eq_true rfl) d_FW_widened_2 ⟨Nat.le_of_ble_eq_true rfl, Nat.le_of_ble_eq_true rfl⟩) ?_
  refine lv_lload_n hx hb d_FW_widened_5 rfl (lv_at hl 1 rfl) ?_
  refine lv_iconst (v := iZ (1)) hx hb d_FW_widened_6 rfl ?_
  refine zv_top (y := bZ (true = true)) ((bZ_t rfl).symm) ?_
  refine kg_l (kr_S (As := [.long (lN (b)), .int (bZ (true = true))]) (rest := []) C0 (c_FW_sizeBits l D Z _ b true (by assumption)) q_y_FW_sizeBits kw_7_ kw_6_ kw_3_ hd_y_FW_sizeBits rfl rfl ⟨Nat.le_of_ble_eq_true rfl, Nat.le_of_ble_eq_true rfl⟩ (hP.sub (ws' := []) [] rfl) (hD.sub (ws' := []) [] (by decide) rfl) (hK.sub (tys' := []) [] rfl) hE hS (va_free (wc := []) hD hS hA [] rfl) rfl hl.1 rfl (Nat.le_of_ble_eq_true rfl) d_FW_widened_7 ⟨Nat.le_of_ble_eq_true rfl, Nat.le_of_ble_eq_true rfl⟩) (fun r hr1 => ?_)
  obtain rfl : r = lN (fSz b true) := hr1
  refine lv_lstore_n (lv' := [(3, .long (lN (fSz b true))), (0, .ref h0), (1, .long (lN (b)))]) hx hb d_FW_widened_10 rfl hl (by decide) rfl (fun ls hl => ?_)
  refine lv_lload_n hx hb d_FW_widened_11 rfl (lv_at hl 0 rfl) ?_
  refine lv_ldc2 (v := (2139095040)) hx hb hown (hts _ kw_2_) d_FW_widened_12 ?_
  refine nv_top (y := lN 2139095040) (by decide) ?_
  refine nv_lcmp_le (tgt := 23) hx hb d_FW_widened_15 d_FW_widened_16 (by decide) (by omega) (by decide) (fun c15 => ?_) (fun c15 => ?_)
  · refine lv_lload_n hx hb d_FW_widened_23 rfl (lv_at hl 2 rfl) ?_
    refine lv_iconst (v := iZ (1)) hx hb d_FW_widened_24 rfl ?_
    refine zv_top (y := bZ (true = true)) ((bZ_t rfl).symm) ?_
    refine kg_i (kr_S (As := [.long (lN (b)), .int (bZ (true = true))]) (rest := []) C0 (c_FW_isNegative l D Z _ b true (by assumption)) q_y_FW_isNegative kw_166_ kw_165_ kw_3_ hd_y_FW_isNegative rfl rfl ⟨Nat.le_of_ble_eq_true rfl, Nat.le_of_ble_eq_true rfl⟩ (hP.sub (ws' := []) [] rfl) (hD.sub (ws' := []) [] (by decide) rfl) (hK.sub (tys' := []) [] rfl) hE hS (va_free (wc := []) hD hS hA [] rfl) rfl hl.1 rfl (Nat.le_of_ble_eq_true rfl) d_FW_widened_25 ⟨Nat.le_of_ble_eq_true rfl, Nat.le_of_ble_eq_true rfl⟩) (fun r hr1 => ?_)
    obtain rfl : r = bZ (b / fS true % 2 = 1) := hr1
    refine bv_if_eq (tgt := 38) hx hb d_FW_widened_28 (by decide) (fun c28 => ?_) (fun c28 => ?_)
    · refine lv_lconst (v := lN 0) hx hb d_FW_widened_38 rfl ?_
      refine nv_top (y := lN (if b / fS true % 2 = 1 then fS false else 0)) (congrArg lN (by rw [if_neg c28])) ?_
      refine lv_lstore (lv' := [(5, .long (lN (if b / fS true % 2 = 1 then fS false else 0))), (3, .long (lN (fSz b true))), (0, .ref h0), (1, .long (lN (b)))]) hx hb d_FW_widened_39 hl (by decide) rfl (fun ls hl => ?_)
      refine lv_lload hx hb d_FW_widened_41 (lv_at hl 0 rfl) ?_
      refine lv_lload_n hx hb d_FW_widened_43 rfl (lv_at hl 1 rfl) ?_
      refine kg_l (kr_S (As := [.long (lN (fSz b true))]) (rest := [.long (lN (if b / fS true % 2 = 1 then fS false else 0))]) C0 (c_FW_widenedSize l D Z _ (fSz b true) (by omega)) q_y_FW_widenedSize kw_284_ kw_283_ kw_3_ hd_y_FW_widenedSize rfl rfl ⟨Nat.le_of_ble_eq_true rfl, Nat.le_of_ble_eq_true rfl⟩ (hP.sub (ws' := []) [] rfl) (hD.sub (ws' := []) [] (by decide) rfl) (hK.sub (tys' := []) [] rfl) hE hS (va_free (wc := []) hD hS hA [] rfl) rfl hl.1 rfl (Nat.le_of_ble_eq_true rfl) d_FW_widened_44 ⟨Nat.le_of_ble_eq_true rfl, Nat.le_of_ble_eq_true rfl⟩) (fun r hr1 => ?_)
      obtain rfl : r = lN (wSz (fSz b true)) := hr1
      refine nv_lor hx hb d_FW_widened_47 (by split <;> decide) (by have := wSz_lt (x := fSz b true) (by omega); omega) ?_
      refine nv_top (y := lN ((if b / fS true % 2 = 1 then fS false else 0) + wSz (fSz b true))) (congrArg lN (wid_or2 (by omega))) ?_
      exact er_l hx hb hr hlocks d_FW_widened_48 (show lN ((if b / fS true % 2 = 1 then fS false else 0) + wSz (fSz b true)) = lN (widF b) from congrArg lN (by unfold widF; rw [if_neg (show ¬ 2139095040 < fSz b true by omega)]))
    · refine lv_iconst (v := iZ (0)) hx hb d_FW_widened_31 rfl ?_
      refine zv_top (y := bZ (false = true)) ((bZ_f (by decide)).symm) ?_
      refine kg_l (kr_S (As := [.int (bZ (false = true))]) (rest := []) C0 (c_FW_signBit l D Z _ false ) q_y_FW_signBit kw_5_ kw_4_ kw_3_ hd_y_FW_signBit rfl rfl ⟨Nat.le_of_ble_eq_true rfl, Nat.le_of_ble_eq_true rfl⟩ (hP.sub (ws' := []) [] rfl) (hD.sub (ws' := []) [] (by decide) rfl) (hK.sub (tys' := []) [] rfl) hE hS (va_free (wc := []) hD hS hA [] rfl) rfl hl.1 rfl (Nat.le_of_ble_eq_true rfl) d_FW_widened_32 ⟨Nat.le_of_ble_eq_true rfl, Nat.le_of_ble_eq_true rfl⟩) (fun r hr1 => ?_)
      obtain rfl : r = lN (fS false) := hr1
      refine nv_top (y := lN (if b / fS true % 2 = 1 then fS false else 0)) (congrArg lN (by rw [if_pos c28])) ?_
      refine lv_goto (tgt := 39) hx hb d_FW_widened_35 (by decide) ?_
      refine lv_lstore (lv' := [(5, .long (lN (if b / fS true % 2 = 1 then fS false else 0))), (3, .long (lN (fSz b true))), (0, .ref h0), (1, .long (lN (b)))]) hx hb d_FW_widened_39 hl (by decide) rfl (fun ls hl => ?_)
      refine lv_lload hx hb d_FW_widened_41 (lv_at hl 0 rfl) ?_
      refine lv_lload_n hx hb d_FW_widened_43 rfl (lv_at hl 1 rfl) ?_
      refine kg_l (kr_S (As := [.long (lN (fSz b true))]) (rest := [.long (lN (if b / fS true % 2 = 1 then fS false else 0))]) C0 (c_FW_widenedSize l D Z _ (fSz b true) (by omega)) q_y_FW_widenedSize kw_284_ kw_283_ kw_3_ hd_y_FW_widenedSize rfl rfl ⟨Nat.le_of_ble_eq_true rfl, Nat.le_of_ble_eq_true rfl⟩ (hP.sub (ws' := []) [] rfl) (hD.sub (ws' := []) [] (by decide) rfl) (hK.sub (tys' := []) [] rfl) hE hS (va_free (wc := []) hD hS hA [] rfl) rfl hl.1 rfl (Nat.le_of_ble_eq_true rfl) d_FW_widened_44 ⟨Nat.le_of_ble_eq_true rfl, Nat.le_of_ble_eq_true rfl⟩) (fun r hr1 => ?_)
      obtain rfl : r = lN (wSz (fSz b true)) := hr1
      refine nv_lor hx hb d_FW_widened_47 (by split <;> decide) (by have := wSz_lt (x := fSz b true) (by omega); omega) ?_
      refine nv_top (y := lN ((if b / fS true % 2 = 1 then fS false else 0) + wSz (fSz b true))) (congrArg lN (wid_or2 (by omega))) ?_
      exact er_l hx hb hr hlocks d_FW_widened_48 (show lN ((if b / fS true % 2 = 1 then fS false else 0) + wSz (fSz b true)) = lN (widF b) from congrArg lN (by unfold widF; rw [if_neg (show ¬ 2139095040 < fSz b true by omega)]))
  · refine lv_ldc2 (v := (9221120237041090560)) hx hb hown (hts _ kw_285_) d_FW_widened_19 ?_
    refine nv_top (y := lN 9221120237041090560) (by decide) ?_
    exact er_l hx hb hr hlocks d_FW_widened_22 (show lN (9221120237041090560) = lN (widF b) from congrArg lN (by unfold widF; rw [if_pos (by omega)]))
