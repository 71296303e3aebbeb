theorem kw_313_ : Cond.constantLong R_Mo 71 (2) ∈ gT := gT_in 737 (by decide +kernel) (by decide +kernel)
theorem kw_314_ : Cond.initialized R_Mo ∈ gT := gT_in 6 (by decide +kernel) (by decide +kernel)
theorem kw_315_ : Cond.static y_Mo_compare ∈ gT := gT_in 755 (by decide +kernel) (by decide +kernel)
theorem kw_316_ : Cond.methodLink R_Mo 73 y_Mo_compare ∈ gT := gT_in 754 (by decide +kernel) (by decide +kernel)
set_option maxRecDepth 100000 in
theorem q_y_Mo_compare : Cond.code y_Mo_compare b_Mo_compare 3 (some .int) ∈ gT := gT_in 756 rfl rfl
theorem hd_y_Mo_compare : y_Mo_compare.cls ≠ "java/lang/invoke/MethodHandle" ∧ y_Mo_compare.cls ≠ "java/lang/invoke/VarHandle" ∧ (parseMethodDescriptor y_Mo_compare.desc).map (fun d => d.parameters.length) = some 2 := by decide +kernel
theorem d_Mo_readsBack_0 : decode b_Mo_readsBack 0 = .ok (.aload_n 0, 1) := by decide +kernel
theorem d_Mo_readsBack_1 : decode b_Mo_readsBack 1 = .ok (.getfield 48, 3) := by decide +kernel
theorem d_Mo_readsBack_4 : decode b_Mo_readsBack 4 = .ok (.ldc2_w 71, 3) := by decide +kernel
theorem d_Mo_readsBack_7 : decode b_Mo_readsBack 7 = .ok (.lrem, 1) := by decide +kernel
theorem d_Mo_readsBack_8 : decode b_Mo_readsBack 8 = .ok (.lconst 0, 1) := by decide +kernel
theorem d_Mo_readsBack_9 : decode b_Mo_readsBack 9 = .ok (.lcmp, 1) := by decide +kernel
theorem d_Mo_readsBack_10 : decode b_Mo_readsBack 10 = .ok (.ifCond .ne 7, 3) := by decide +kernel
theorem d_Mo_readsBack_13 : decode b_Mo_readsBack 13 = .ok (.iconst 1, 1) := by decide +kernel
theorem d_Mo_readsBack_14 : decode b_Mo_readsBack 14 = .ok (.goto 4, 3) := by decide +kernel
theorem d_Mo_readsBack_17 : decode b_Mo_readsBack 17 = .ok (.iconst 0, 1) := by decide +kernel
theorem d_Mo_readsBack_18 : decode b_Mo_readsBack 18 = .ok (.istore_n 1, 1) := by decide +kernel
theorem d_Mo_readsBack_19 : decode b_Mo_readsBack 19 = .ok (.aload_n 0, 1) := by decide +kernel
theorem d_Mo_readsBack_20 : decode b_Mo_readsBack 20 = .ok (.getfield 25, 3) := by decide +kernel
theorem d_Mo_readsBack_23 : decode b_Mo_readsBack 23 = .ok (.aload_n 0, 1) := by decide +kernel
theorem d_Mo_readsBack_24 : decode b_Mo_readsBack 24 = .ok (.getfield 19, 3) := by decide +kernel
theorem d_Mo_readsBack_27 : decode b_Mo_readsBack 27 = .ok (.invokestatic 73, 3) := by decide +kernel
theorem d_Mo_readsBack_30 : decode b_Mo_readsBack 30 = .ok (.istore_n 2, 1) := by decide +kernel
theorem d_Mo_readsBack_31 : decode b_Mo_readsBack 31 = .ok (.aload_n 0, 1) := by decide +kernel
theorem d_Mo_readsBack_32 : decode b_Mo_readsBack 32 = .ok (.getfield 25, 3) := by decide +kernel
theorem d_Mo_readsBack_35 : decode b_Mo_readsBack 35 = .ok (.aload_n 0, 1) := by decide +kernel
theorem d_Mo_readsBack_36 : decode b_Mo_readsBack 36 = .ok (.getfield 22, 3) := by decide +kernel
theorem d_Mo_readsBack_39 : decode b_Mo_readsBack 39 = .ok (.invokestatic 73, 3) := by decide +kernel
theorem d_Mo_readsBack_42 : decode b_Mo_readsBack 42 = .ok (.istore_n 3, 1) := by decide +kernel
theorem d_Mo_readsBack_43 : decode b_Mo_readsBack 43 = .ok (.iload_n 2, 1) := by decide +kernel
theorem d_Mo_readsBack_44 : decode b_Mo_readsBack 44 = .ok (.ifCond .gt 11, 3) := by decide +kernel
theorem d_Mo_readsBack_47 : decode b_Mo_readsBack 47 = .ok (.iload_n 2, 1) := by decide +kernel
theorem d_Mo_readsBack_48 : decode b_Mo_readsBack 48 = .ok (.ifCond .ne 23, 3) := by decide +kernel
theorem d_Mo_readsBack_51 : decode b_Mo_readsBack 51 = .ok (.iload_n 1, 1) := by decide +kernel
theorem d_Mo_readsBack_52 : decode b_Mo_readsBack 52 = .ok (.ifCond .eq 19, 3) := by decide +kernel
theorem d_Mo_readsBack_55 : decode b_Mo_readsBack 55 = .ok (.iload_n 3, 1) := by decide +kernel
theorem d_Mo_readsBack_56 : decode b_Mo_readsBack 56 = .ok (.ifCond .lt 11, 3) := by decide +kernel
theorem d_Mo_readsBack_59 : decode b_Mo_readsBack 59 = .ok (.iload_n 3, 1) := by decide +kernel
theorem d_Mo_readsBack_60 : decode b_Mo_readsBack 60 = .ok (.ifCond .ne 11, 3) := by decide +kernel
theorem d_Mo_readsBack_63 : decode b_Mo_readsBack 63 = .ok (.iload_n 1, 1) := by decide +kernel
theorem d_Mo_readsBack_64 : decode b_Mo_readsBack 64 = .ok (.ifCond .eq 7, 3) := by decide +kernel
theorem d_Mo_readsBack_67 : decode b_Mo_readsBack 67 = .ok (.iconst 1, 1) := by decide +kernel
theorem d_Mo_readsBack_68 : decode b_Mo_readsBack 68 = .ok (.goto 4, 3) := by decide +kernel
theorem d_Mo_readsBack_71 : decode b_Mo_readsBack 71 = .ok (.iconst 0, 1) := by decide +kernel
theorem d_Mo_readsBack_72 : decode b_Mo_readsBack 72 = .ok (.ireturn, 1) := by decide +kernel
theorem d_Mo_half_0 : decode b_Mo_half 0 = .ok (.iload_n 1, 1) := by decide +kernel
theorem d_Mo_half_1 : decode b_Mo_half 1 = .ok (.ifCond .eq 15, 3) := by decide +kernel
theorem d_Mo_half_4 : decode b_Mo_half 4 = .ok (.aload_n 0, 1) := by decide +kernel
theorem d_Mo_half_5 : decode b_Mo_half 5 = .ok (.getfield 16, 3) := by decide +kernel
theorem d_Mo_half_8 : decode b_Mo_half 8 = .ok (.iload_n 1, 1) := by decide +kernel
theorem d_Mo_half_9 : decode b_Mo_half 9 = .ok (.iconst 1, 1) := by decide +kernel
theorem d_Mo_half_10 : decode b_Mo_half 10 = .ok (.isub, 1) := by decide +kernel
theorem d_Mo_half_11 : decode b_Mo_half 11 = .ok (.iaload, 1) := by decide +kernel
theorem d_Mo_half_12 : decode b_Mo_half 12 = .ok (.iconst 5, 1) := by decide +kernel
theorem d_Mo_half_13 : decode b_Mo_half 13 = .ok (.if_icmp .eq 25, 3) := by decide +kernel
theorem d_Mo_half_16 : decode b_Mo_half 16 = .ok (.iload_n 1, 1) := by decide +kernel
theorem d_Mo_half_17 : decode b_Mo_half 17 = .ok (.ifCond .le 19, 3) := by decide +kernel
theorem d_Mo_half_20 : decode b_Mo_half 20 = .ok (.aload_n 0, 1) := by decide +kernel
theorem d_Mo_half_21 : decode b_Mo_half 21 = .ok (.getfield 16, 3) := by decide +kernel
theorem d_Mo_half_24 : decode b_Mo_half 24 = .ok (.iload_n 1, 1) := by decide +kernel
theorem d_Mo_half_25 : decode b_Mo_half 25 = .ok (.iconst 1, 1) := by decide +kernel
theorem d_Mo_half_26 : decode b_Mo_half 26 = .ok (.isub, 1) := by decide +kernel
theorem d_Mo_half_27 : decode b_Mo_half 27 = .ok (.iaload, 1) := by decide +kernel
theorem d_Mo_half_28 : decode b_Mo_half 28 = .ok (.iconst 5, 1) := by decide +kernel
theorem d_Mo_half_29 : decode b_Mo_half 29 = .ok (.if_icmp .le 7, 3) := by decide +kernel
theorem d_Mo_half_32 : decode b_Mo_half 32 = .ok (.iconst 1, 1) := by decide +kernel
theorem d_Mo_half_33 : decode b_Mo_half 33 = .ok (.goto 4, 3) := by decide +kernel
theorem d_Mo_half_36 : decode b_Mo_half 36 = .ok (.iconst (-1), 1) := by decide +kernel
theorem d_Mo_half_37 : decode b_Mo_half 37 = .ok (.ireturn, 1) := by decide +kernel
theorem d_Mo_half_38 : decode b_Mo_half 38 = .ok (.iconst 0, 1) := by decide +kernel
theorem d_Mo_half_39 : decode b_Mo_half 39 = .ok (.istore_n 2, 1) := by decide +kernel
theorem d_Mo_half_40 : decode b_Mo_half 40 = .ok (.iload_n 2, 1) := by decide +kernel
theorem d_Mo_half_41 : decode b_Mo_half 41 = .ok (.iload_n 1, 1) := by decide +kernel
theorem d_Mo_half_42 : decode b_Mo_half 42 = .ok (.iconst 1, 1) := by decide +kernel
theorem d_Mo_half_43 : decode b_Mo_half 43 = .ok (.isub, 1) := by decide +kernel
theorem d_Mo_half_44 : decode b_Mo_half 44 = .ok (.if_icmp .ge 20, 3) := by decide +kernel
theorem d_Mo_half_47 : decode b_Mo_half 47 = .ok (.aload_n 0, 1) := by decide +kernel
theorem d_Mo_half_48 : decode b_Mo_half 48 = .ok (.getfield 16, 3) := by decide +kernel
theorem d_Mo_half_51 : decode b_Mo_half 51 = .ok (.iload_n 2, 1) := by decide +kernel
theorem d_Mo_half_52 : decode b_Mo_half 52 = .ok (.iaload, 1) := by decide +kernel
theorem d_Mo_half_53 : decode b_Mo_half 53 = .ok (.ifCond .eq 5, 3) := by decide +kernel
theorem d_Mo_half_56 : decode b_Mo_half 56 = .ok (.iconst 1, 1) := by decide +kernel
theorem d_Mo_half_57 : decode b_Mo_half 57 = .ok (.ireturn, 1) := by decide +kernel
theorem d_Mo_half_58 : decode b_Mo_half 58 = .ok (.iinc 2 1, 3) := by decide +kernel
theorem d_Mo_half_61 : decode b_Mo_half 61 = .ok (.goto (-21), 3) := by decide +kernel
theorem d_Mo_half_64 : decode b_Mo_half 64 = .ok (.iconst 0, 1) := by decide +kernel
theorem d_Mo_half_65 : decode b_Mo_half 65 = .ok (.ireturn, 1) := by decide +kernel
abbrev Qc_Mo_readsBack (D : va_G) (h0 : Nat) (th : Int) (au : Nat) (al : Nat) (av : Nat) (ao : Nat) (ah : Nat) (ar : Nat) (ap : Nat) (t : List Nat) (ng : Bool) (me : Nat) (mf : Nat) (mb : Nat) (mm : Nat) (ms : Nat) (mt : Int) (mq : Nat) (mz : Int) (kO : ClassId) (fo : Nat → Int32) (kH : ClassId) (fh : Nat → Int32) (kR : ClassId) (fr : Nat → Int32) (vr : Nat) (vl : Nat) (vh : Nat) (A : Nat → Prop) : Array Value → State → Outcome → State → Prop := vp_Si (fun r : Int32 => r = bZ (rbP vr vl vh (decide (mf % 2 = 0)) = true))
set_option maxHeartbeats 4000000 in
set_option maxRecDepth 100000 in
theorem c_Mo_readsBack (l : Launch) (D : va_G) (Z : Nat → Nat) (hz9 : Nat) (h0 : Nat) (th : Int) (au : Nat) (al : Nat) (av : Nat) (ao : Nat) (ah : Nat) (ar : Nat) (ap : Nat) (t : List Nat) (ng : Bool) (me : Nat) (mf : Nat) (mb : Nat) (mm : Nat) (ms : Nat) (mt : Int) (mq : Nat) (mz : Int) (kO : ClassId) (fo : Nat → Int32) (kH : ClassId) (fh : Nat → Int32) (kR : ClassId) (fr : Nat → Int32) (vr : Nat) (vl : Nat) (vh : Nat) (hR : DigI fr vr) (hO : DigI fo vl) (hH : DigI fh vh) (hmf : mf < 9223372036854775808) : Met l y_Mo_readsBack (.code y_Mo_readsBack b_Mo_readsBack 4 (some .boolean) :: gT) ({ frames := 1, cells := 0, slots := 0, locals := 22 } : Room) (va_Pc [.ref h0] (cpre D Z [(h0, .inr (5, [.int (iZ (th)), .ref au, .ref al, .ref av, .ref ao, .ref ah, .ref ar, .ref ap, .int (iZ ((((t).length : Nat) : Int))), .int (bZ (ng = true)), .int (iZ (((me : Nat) : Int))), .long (lN (mf)), .int (iZ (((mb : Nat) : Int))), .int (iZ (((mm : Nat) : Int))), .long (lN (ms)), .int (iZ (mt)), .long (lN (mq)), .int (iZ (mz))])), (ao, .inl (kO, 1404, .inl fo)), (ah, .inl (kH, 1404, .inl fh)), (ar, .inl (kR, 1404, .inl fr))] [(kO, .int), (kH, .int), (kR, .int)] hz9)) (Qc_Mo_readsBack D h0 th au al av ao ah ar ap t ng me mf mb mm ms mt mq mz kO fo kH fh kR fr vr vl vh (va_A [(h0, .inr (5, [.int (iZ (th)), .ref au, .ref al, .ref av, .ref ao, .ref ah, .ref ar, .ref ap, .int (iZ ((((t).length : Nat) : Int))), .int (bZ (ng = true)), .int (iZ (((me : Nat) : Int))), .long (lN (mf)), .int (iZ (((mb : Nat) : Int))), .int (iZ (((mm : Nat) : Int))), .long (lN (ms)), .int (iZ (mt)), .long (lN (mq)), .int (iZ (mz))])), (ao, .inl (kO, 1404, .inl fo)), (ah, .inl (kH, 1404, .inl fh)), (ar, .inl (kR, 1404, .inl fr))] hz9)) 0 0 (fun _ => False) := by
  refine met_go (Qf := Qc_Mo_readsBack D h0 th au al av ao ah ar ap t ng me mf mb mm ms mt mq mz kO fo kH fh kR fr vr vl vh) (ff := fun _ _ => False) (by decide) ?_
  intro p e s m below meth c A C0 hin hsz9 hA hE hK hP hD
  obtain ⟨hx, hb, hml, hown, hts, hr, hlocks⟩ := id C0
  have hS : va_S A s.heap s.heap [] := va_S.rf
  have hl := lv_entry [.ref h0] (n := 4) (Nat.le_of_ble_eq_true rfl)
  rw [lg_entry_eq]
  generalize (lg_sl [.ref h0] ++ List.replicate (4 - (lg_sl [.ref h0]).length) Slot.unset).toArray = ls at hl ⊢
  have hl : lv_has ls 4 [(0, .ref h0)] := hl
  have hc1 := cmpN_in vr vl
  have hc2 := cmpN_in vr vh
  have hc3 := cmp_gt (x := vr) (y := vl)
  have hc4 := cmp_eq (x := vr) (y := vl)
  have hc5 := cmp_lt (x := vr) (y := vh)
  have hc6 := cmp_eq (x := vr) (y := vh)
  refine lv_aload_n hx hb d_Mo_readsBack_0 rfl (lv_at hl 0 rfl) ?_
  refine va_get (D := D) (ci := 5) (v := .long (lN (mf))) (C := R_Mo) (T := F_Mo) (N := 18) hx hb hts i_Mo hown hK hP 0 rfl rfl 11 (by decide) (hts _ kw_311_) (fun _ h9 => h9) rfl d_Mo_readsBack_1 ?_
  refine lv_ldc2 (v := (2)) hx hb hown (hts _ kw_313_) d_Mo_readsBack_4 ?_
  refine nv_top (y := lN 2) (by decide) ?_
  refine nv_lrem hx hb d_Mo_readsBack_7 (by omega) (by decide) (by decide) ?_
  refine lv_lconst (v := lN 0) hx hb d_Mo_readsBack_8 rfl ?_
  refine nv_lcmp_ne (tgt := 17) hx hb d_Mo_readsBack_9 d_Mo_readsBack_10 (by decide) (by omega) (by decide) (fun c9 => ?_) (fun c9 => ?_)
  · refine lv_iconst (v := iZ (0)) hx hb d_Mo_readsBack_17 rfl ?_
    refine zv_top (y := bZ (decide (mf % 2 = 0) = true)) ((bZ_f (by simp; omega)).symm) ?_
    refine lv_istore_n (lv' := [(1, .int (bZ (decide (mf % 2 = 0) = true))), (0, .ref h0)]) hx hb d_Mo_readsBack_18 rfl hl (by decide) rfl (fun ls hl => ?_)
    refine lv_aload_n hx hb d_Mo_readsBack_19 rfl (lv_at hl 1 rfl) ?_
    refine va_get (D := D) (ci := 5) (v := .ref ar) (C := R_Mo) (T := F_Mo) (N := 18) hx hb hts i_Mo hown hK hP 0 rfl rfl 6 (by decide) (hts _ kw_302_) (fun _ h9 => h9) rfl d_Mo_readsBack_20 ?_
    refine lv_aload_n hx hb d_Mo_readsBack_23 rfl (lv_at hl 1 rfl) ?_
    refine va_get (D := D) (ci := 5) (v := .ref ao) (C := R_Mo) (T := F_Mo) (N := 18) hx hb hts i_Mo hown hK hP 0 rfl rfl 4 (by decide) (hts _ kw_300_) (fun _ h9 => h9) rfl d_Mo_readsBack_24 ?_
    refine kg_i (kr_S (As := [.ref ar, .ref ao]) (rest := []) C0 (c_Mo_compare l D Z _ ar kR fr ao kO fo vr vl (by assumption) (by assumption)) q_y_Mo_compare kw_316_ kw_315_ kw_314_ hd_y_Mo_compare rfl rfl ⟨Nat.le_of_ble_eq_true rfl, Nat.le_of_ble_eq_true rfl⟩ (hP.sub (ws' := [(ar, .inl (kR, 1404, .inl fr)), (ao, .inl (kO, 1404, .inl fo))]) [3, 1] rfl) (hD.sub (ws' := [(ar, .inl (kR, 1404, .inl fr)), (ao, .inl (kO, 1404, .inl fo))]) [3, 1] (by decide) rfl) (hK.sub (tys' := [(kR, .int), (kO, .int)]) [2, 0] rfl) hE hS (va_free (wc := [(ar, .inl (kR, 1404, .inl fr)), (ao, .inl (kO, 1404, .inl fo))]) hD hS hA [3, 1] rfl) rfl hl.1 rfl (Nat.le_of_ble_eq_true rfl) d_Mo_readsBack_27 ⟨Nat.le_of_ble_eq_true rfl, Nat.le_of_ble_eq_true rfl⟩) (fun r hr1 => ?_)
    obtain rfl : r = iZ (cmpN vr vl) := hr1
    refine lv_istore_n (lv' := [(2, .int (iZ (cmpN vr vl))), (1, .int (bZ (decide (mf % 2 = 0) = true))), (0, .ref h0)]) hx hb d_Mo_readsBack_30 rfl hl (by decide) rfl (fun ls hl => ?_)
    refine lv_aload_n hx hb d_Mo_readsBack_31 rfl (lv_at hl 2 rfl) ?_
    refine va_get (D := D) (ci := 5) (v := .ref ar) (C := R_Mo) (T := F_Mo) (N := 18) hx hb hts i_Mo hown hK hP 0 rfl rfl 6 (by decide) (hts _ kw_302_) (fun _ h9 => h9) rfl d_Mo_readsBack_32 ?_
    refine lv_aload_n hx hb d_Mo_readsBack_35 rfl (lv_at hl 2 rfl) ?_
    refine va_get (D := D) (ci := 5) (v := .ref ah) (C := R_Mo) (T := F_Mo) (N := 18) hx hb hts i_Mo hown hK hP 0 rfl rfl 5 (by decide) (hts _ kw_301_) (fun _ h9 => h9) rfl d_Mo_readsBack_36 ?_
    refine kg_i (kr_S (As := [.ref ar, .ref ah]) (rest := []) C0 (c_Mo_compare l D Z _ ar kR fr ah kH fh vr vh (by assumption) (by assumption)) q_y_Mo_compare kw_316_ kw_315_ kw_314_ hd_y_Mo_compare rfl rfl ⟨Nat.le_of_ble_eq_true rfl, Nat.le_of_ble_eq_true rfl⟩ (hP.sub (ws' := [(ar, .inl (kR, 1404, .inl fr)), (ah, .inl (kH, 1404, .inl fh))]) [3, 2] rfl) (hD.sub (ws' := [(ar, .inl (kR, 1404, .inl fr)), (ah, .inl (kH, 1404, .inl fh))]) [3, 2] (by decide) rfl) (hK.sub (tys' := [(kR, .int), (kH, .int)]) [2, 1] rfl) hE hS (va_free (wc := [(ar, .inl (kR, 1404, .inl fr)), (ah, .inl (kH, 1404, .inl fh))]) hD hS hA [3, 2] rfl) rfl hl.1 rfl (Nat.le_of_ble_eq_true rfl) d_Mo_readsBack_39 ⟨Nat.le_of_ble_eq_true rfl, Nat.le_of_ble_eq_true rfl⟩) (fun r hr1 => ?_)
    obtain rfl : r = iZ (cmpN vr vh) := hr1
    refine lv_istore_n (lv' := [(3, .int (iZ (cmpN vr vh))), (2, .int (iZ (cmpN vr vl))), (1, .int (bZ (decide (mf % 2 = 0) = true))), (0, .ref h0)]) hx hb d_Mo_readsBack_42 rfl hl (by decide) rfl (fun ls hl => ?_)
    refine lv_iload_n hx hb d_Mo_readsBack_43 rfl (lv_at hl 1 rfl) ?_
    refine zv_if_gt (tgt := 55) hx hb d_Mo_readsBack_44 (by decide) (by omega) (fun c44 => ?_) (fun c44 => ?_)
    · refine lv_iload_n hx hb d_Mo_readsBack_55 rfl (lv_at hl 0 rfl) ?_
      refine zv_if_lt (tgt := 67) hx hb d_Mo_readsBack_56 (by decide) (by omega) (fun c56 => ?_) (fun c56 => ?_)
      · refine lv_iconst (v := iZ (1)) hx hb d_Mo_readsBack_67 rfl ?_
        refine lv_goto (tgt := 72) hx hb d_Mo_readsBack_68 (by decide) ?_
        exact er_z hx hb hr hlocks (by decide) d_Mo_readsBack_72 (show iZ (1) = bZ (rbP vr vl vh (decide (mf % 2 = 0)) = true) from by first | exact (bZ_t (by unfold rbP; simp at *; omega)).symm | exact (bZ_f (by unfold rbP; simp at *; omega)).symm)
      · refine lv_iload_n hx hb d_Mo_readsBack_59 rfl (lv_at hl 0 rfl) ?_
        refine zv_if_ne (tgt := 71) hx hb d_Mo_readsBack_60 (by decide) (by omega) (fun c60 => ?_) (fun c60 => ?_)
        · refine lv_iconst (v := iZ (0)) hx hb d_Mo_readsBack_71 rfl ?_
          exact er_z hx hb hr hlocks (by decide) d_Mo_readsBack_72 (show iZ (0) = bZ (rbP vr vl vh (decide (mf % 2 = 0)) = true) from by first | exact (bZ_t (by unfold rbP; simp at *; omega)).symm | exact (bZ_f (by unfold rbP; simp at *; omega)).symm)
        · refine lv_iload_n hx hb d_Mo_readsBack_63 rfl (lv_at hl 2 rfl) ?_
          refine bv_if_eq (tgt := 71) hx hb d_Mo_readsBack_64 (by decide) (fun c64 => ?_) (fun c64 => ?_)
          · refine lv_iconst (v := iZ (0)) hx hb d_Mo_readsBack_71 rfl ?_
            exact er_z hx hb hr hlocks (by decide) d_Mo_readsBack_72 (show iZ (0) = bZ (rbP vr vl vh (decide (mf % 2 = 0)) = true) from by first | exact (bZ_t (by unfold rbP; simp at *; omega)).symm | exact (bZ_f (by unfold rbP; simp at *; omega)).symm)
          · refine lv_iconst (v := iZ (1)) hx hb d_Mo_readsBack_67 rfl ?_
            refine lv_goto (tgt := 72) hx hb d_Mo_readsBack_68 (by decide) ?_
            exact er_z hx hb hr hlocks (by decide) d_Mo_readsBack_72 (show iZ (1) = bZ (rbP vr vl vh (decide (mf % 2 = 0)) = true) from by first | exact (bZ_t (by unfold rbP; simp at *; omega)).symm | exact (bZ_f (by unfold rbP; simp at *; omega)).symm)
    · refine lv_iload_n hx hb d_Mo_readsBack_47 rfl (lv_at hl 1 rfl) ?_
      refine zv_if_ne (tgt := 71) hx hb d_Mo_readsBack_48 (by decide) (by omega) (fun c48 => ?_) (fun c48 => ?_)
      · refine lv_iconst (v := iZ (0)) hx hb d_Mo_readsBack_71 rfl ?_
        exact er_z hx hb hr hlocks (by decide) d_Mo_readsBack_72 (show iZ (0) = bZ (rbP vr vl vh (decide (mf % 2 = 0)) = true) from by first | exact (bZ_t (by unfold rbP; simp at *; omega)).symm | exact (bZ_f (by unfold rbP; simp at *; omega)).symm)
      · refine lv_iload_n hx hb d_Mo_readsBack_51 rfl (lv_at hl 2 rfl) ?_
        refine bv_if_eq (tgt := 71) hx hb d_Mo_readsBack_52 (by decide) (fun c52 => ?_) (fun c52 => ?_)
        · refine lv_iconst (v := iZ (0)) hx hb d_Mo_readsBack_71 rfl ?_
          exact er_z hx hb hr hlocks (by decide) d_Mo_readsBack_72 (show iZ (0) = bZ (rbP vr vl vh (decide (mf % 2 = 0)) = true) from by first | exact (bZ_t (by unfold rbP; simp at *; omega)).symm | exact (bZ_f (by unfold rbP; simp at *; omega)).symm)
        · refine lv_iload_n hx hb d_Mo_readsBack_55 rfl (lv_at hl 0 rfl) ?_
          refine zv_if_lt (tgt := 67) hx hb d_Mo_readsBack_56 (by decide) (by omega) (fun c56 => ?_) (fun c56 => ?_)
          · refine lv_iconst (v := iZ (1)) hx hb d_Mo_readsBack_67 rfl ?_
            refine lv_goto (tgt := 72) hx hb d_Mo_readsBack_68 (by decide) ?_
            exact er_z hx hb hr hlocks (by decide) d_Mo_readsBack_72 (show iZ (1) = bZ (rbP vr vl vh (decide (mf % 2 = 0)) = true) from by first | exact (bZ_t (by unfold rbP; simp at *; omega)).symm | exact (bZ_f (by unfold rbP; simp at *; omega)).symm)
          · refine lv_iload_n hx hb d_Mo_readsBack_59 rfl (lv_at hl 0 rfl) ?_
            refine zv_if_ne (tgt := 71) hx hb d_Mo_readsBack_60 (by decide) (by omega) (fun c60 => ?_) (fun c60 => ?_)
            · refine lv_iconst (v := iZ (0)) hx hb d_Mo_readsBack_71 rfl ?_
              exact er_z hx hb hr hlocks (by decide) d_Mo_readsBack_72 (show iZ (0) = bZ (rbP vr vl vh (decide (mf % 2 = 0)) = true) from by first | exact (bZ_t (by unfold rbP; simp at *; omega)).symm | exact (bZ_f (by unfold rbP; simp at *; omega)).symm)
            · refine lv_iload_n hx hb d_Mo_readsBack_63 rfl (lv_at hl 2 rfl) ?_
              refine bv_if_eq (tgt := 71) hx hb d_Mo_readsBack_64 (by decide) (fun c64 => ?_) (fun c64 => ?_)
              · refine lv_iconst (v := iZ (0)) hx hb d_Mo_readsBack_71 rfl ?_
                exact er_z hx hb hr hlocks (by decide) d_Mo_readsBack_72 (show iZ (0) = bZ (rbP vr vl vh (decide (mf % 2 = 0)) = true) from by first | exact (bZ_t (by unfold rbP; simp at *; omega)).symm | exact (bZ_f (by unfold rbP; simp at *; omega)).symm)
              · refine lv_iconst (v := iZ (1)) hx hb d_Mo_readsBack_67 rfl ?_
                refine lv_goto (tgt := 72) hx hb d_Mo_readsBack_68 (by decide) ?_
                exact er_z hx hb hr hlocks (by decide) d_Mo_readsBack_72 (show iZ (1) = bZ (rbP vr vl vh (decide (mf % 2 = 0)) = true) from by first | exact (bZ_t (by unfold rbP; simp at *; omega)).symm | exact (bZ_f (by unfold rbP; simp at *; omega)).symm)
  · refine lv_iconst (v := iZ (1)) hx hb d_Mo_readsBack_13 rfl ?_
    refine zv_top (y := bZ (decide (mf % 2 = 0) = true)) ((bZ_t (by simp; omega)).symm) ?_
    refine lv_goto (tgt := 18) hx hb d_Mo_readsBack_14 (by decide) ?_
    refine lv_istore_n (lv' := [(1, .int (bZ (decide (mf % 2 = 0) = true))), (0, .ref h0)]) hx hb d_Mo_readsBack_18 rfl hl (by decide) rfl (fun ls hl => ?_)
    refine lv_aload_n hx hb d_Mo_readsBack_19 rfl (lv_at hl 1 rfl) ?_
    refine va_get (D := D) (ci := 5) (v := .ref ar) (C := R_Mo) (T := F_Mo) (N := 18) hx hb hts i_Mo hown hK hP 0 rfl rfl 6 (by decide) (hts _ kw_302_) (fun _ h9 => h9) rfl d_Mo_readsBack_20 ?_
    refine lv_aload_n hx hb d_Mo_readsBack_23 rfl (lv_at hl 1 rfl) ?_
    refine va_get (D := D) (ci := 5) (v := .ref ao) (C := R_Mo) (T := F_Mo) (N := 18) hx hb hts i_Mo hown hK hP 0 rfl rfl 4 (by decide) (hts _ kw_300_) (fun _ h9 => h9) rfl d_Mo_readsBack_24 ?_
    refine kg_i (kr_S (As := [.ref ar, .ref ao]) (rest := []) C0 (c_Mo_compare l D Z _ ar kR fr ao kO fo vr vl (by assumption) (by assumption)) q_y_Mo_compare kw_316_ kw_315_ kw_314_ hd_y_Mo_compare rfl rfl ⟨Nat.le_of_ble_eq_true rfl, Nat.le_of_ble_eq_true rfl⟩ (hP.sub (ws' := [(ar, .inl (kR, 1404, .inl fr)), (ao, .inl (kO, 1404, .inl fo))]) [3, 1] rfl) (hD.sub (ws' := [(ar, .inl (kR, 1404, .inl fr)), (ao, .inl (kO, 1404, .inl fo))]) [3, 1] (by decide) rfl) (hK.sub (tys' := [(kR, .int), (kO, .int)]) [2, 0] rfl) hE hS (va_free (wc := [(ar, .inl (kR, 1404, .inl fr)), (ao, .inl (kO, 1404, .inl fo))]) hD hS hA [3, 1] rfl) rfl hl.1 rfl (Nat.le_of_ble_eq_true rfl) d_Mo_readsBack_27 ⟨Nat.le_of_ble_eq_true rfl, Nat.le_of_ble_eq_true rfl⟩) (fun r hr1 => ?_)
    obtain rfl : r = iZ (cmpN vr vl) := hr1
    refine lv_istore_n (lv' := [(2, .int (iZ (cmpN vr vl))), (1, .int (bZ (decide (mf % 2 = 0) = true))), (0, .ref h0)]) hx hb d_Mo_readsBack_30 rfl hl (by decide) rfl (fun ls hl => ?_)
    refine lv_aload_n hx hb d_Mo_readsBack_31 rfl (lv_at hl 2 rfl) ?_
    refine va_get (D := D) (ci := 5) (v := .ref ar) (C := R_Mo) (T := F_Mo) (N := 18) hx hb hts i_Mo hown hK hP 0 rfl rfl 6 (by decide) (hts _ kw_302_) (fun _ h9 => h9) rfl d_Mo_readsBack_32 ?_
    refine lv_aload_n hx hb d_Mo_readsBack_35 rfl (lv_at hl 2 rfl) ?_
    refine va_get (D := D) (ci := 5) (v := .ref ah) (C := R_Mo) (T := F_Mo) (N := 18) hx hb hts i_Mo hown hK hP 0 rfl rfl 5 (by decide) (hts _ kw_301_) (fun _ h9 => h9) rfl d_Mo_readsBack_36 ?_
    refine kg_i (kr_S (As := [.ref ar, .ref ah]) (rest := []) C0 (c_Mo_compare l D Z _ ar kR fr ah kH fh vr vh (by assumption) (by assumption)) q_y_Mo_compare kw_316_ kw_315_ kw_314_ hd_y_Mo_compare rfl rfl ⟨Nat.le_of_ble_eq_true rfl, Nat.le_of_ble_eq_true rfl⟩ (hP.sub (ws' := [(ar, .inl (kR, 1404, .inl fr)), (ah, .inl (kH, 1404, .inl fh))]) [3, 2] rfl) (hD.sub (ws' := [(ar, .inl (kR, 1404, .inl fr)), (ah, .inl (kH, 1404, .inl fh))]) [3, 2] (by decide) rfl) (hK.sub (tys' := [(kR, .int), (kH, .int)]) [2, 1] rfl) hE hS (va_free (wc := [(ar, .inl (kR, 1404, .inl fr)), (ah, .inl (kH, 1404, .inl fh))]) hD hS hA [3, 2] rfl) rfl hl.1 rfl (Nat.le_of_ble_eq_true rfl) d_Mo_readsBack_39 ⟨Nat.le_of_ble_eq_true rfl, Nat.le_of_ble_eq_true rfl⟩) (fun r hr1 => ?_)
    obtain rfl : r = iZ (cmpN vr vh) := hr1
    refine lv_istore_n (lv' := [(3, .int (iZ (cmpN vr vh))), (2, .int (iZ (cmpN vr vl))), (1, .int (bZ (decide (mf % 2 = 0) = true))), (0, .ref h0)]) hx hb d_Mo_readsBack_42 rfl hl (by decide) rfl (fun ls hl => ?_)
    refine lv_iload_n hx hb d_Mo_readsBack_43 rfl (lv_at hl 1 rfl) ?_
    refine zv_if_gt (tgt := 55) hx hb d_Mo_readsBack_44 (by decide) (by omega) (fun c44 => ?_) (fun c44 => ?_)
    · refine lv_iload_n hx hb d_Mo_readsBack_55 rfl (lv_at hl 0 rfl) ?_
      refine zv_if_lt (tgt := 67) hx hb d_Mo_readsBack_56 (by decide) (by omega) (fun c56 => ?_) (fun c56 => ?_)
      · refine lv_iconst (v := iZ (1)) hx hb d_Mo_readsBack_67 rfl ?_
        refine lv_goto (tgt := 72) hx hb d_Mo_readsBack_68 (by decide) ?_
        exact er_z hx hb hr hlocks (by decide) d_Mo_readsBack_72 (show iZ (1) = bZ (rbP vr vl vh (decide (mf % 2 = 0)) = true) from by first | exact (bZ_t (by unfold rbP; simp at *; omega)).symm | exact (bZ_f (by unfold rbP; simp at *; omega)).symm)
      · refine lv_iload_n hx hb d_Mo_readsBack_59 rfl (lv_at hl 0 rfl) ?_
        refine zv_if_ne (tgt := 71) hx hb d_Mo_readsBack_60 (by decide) (by omega) (fun c60 => ?_) (fun c60 => ?_)
        · refine lv_iconst (v := iZ (0)) hx hb d_Mo_readsBack_71 rfl ?_
          exact er_z hx hb hr hlocks (by decide) d_Mo_readsBack_72 (show iZ (0) = bZ (rbP vr vl vh (decide (mf % 2 = 0)) = true) from by first | exact (bZ_t (by unfold rbP; simp at *; omega)).symm | exact (bZ_f (by unfold rbP; simp at *; omega)).symm)
        · refine lv_iload_n hx hb d_Mo_readsBack_63 rfl (lv_at hl 2 rfl) ?_
          refine bv_if_eq (tgt := 71) hx hb d_Mo_readsBack_64 (by decide) (fun c64 => ?_) (fun c64 => ?_)
          · refine lv_iconst (v := iZ (0)) hx hb d_Mo_readsBack_71 rfl ?_
            exact er_z hx hb hr hlocks (by decide) d_Mo_readsBack_72 (show iZ (0) = bZ (rbP vr vl vh (decide (mf % 2 = 0)) = true) from by first | exact (bZ_t (by unfold rbP; simp at *; omega)).symm | exact (bZ_f (by unfold rbP; simp at *; omega)).symm)
          · refine lv_iconst (v := iZ (1)) hx hb d_Mo_readsBack_67 rfl ?_
            refine lv_goto (tgt := 72) hx hb d_Mo_readsBack_68 (by decide) ?_
            exact er_z hx hb hr hlocks (by decide) d_Mo_readsBack_72 (show iZ (1) = bZ (rbP vr vl vh (decide (mf % 2 = 0)) = true) from by first | exact (bZ_t (by unfold rbP; simp at *; omega)).symm | exact (bZ_f (by unfold rbP; simp at *; omega)).symm)
    · refine lv_iload_n hx hb d_Mo_readsBack_47 rfl (lv_at hl 1 rfl) ?_
      refine zv_if_ne (tgt := 71) hx hb d_Mo_readsBack_48 (by decide) (by omega) (fun c48 => ?_) (fun c48 => ?_)
      · refine lv_iconst (v := iZ (0)) hx hb d_Mo_readsBack_71 rfl ?_
        exact er_z hx hb hr hlocks (by decide) d_Mo_readsBack_72 (show iZ (0) = bZ (rbP vr vl vh (decide (mf % 2 = 0)) = true) from by first | exact (bZ_t (by unfold rbP; simp at *; omega)).symm | exact (bZ_f (by unfold rbP; simp at *; omega)).symm)
      · refine lv_iload_n hx hb d_Mo_readsBack_51 rfl (lv_at hl 2 rfl) ?_
        refine bv_if_eq (tgt := 71) hx hb d_Mo_readsBack_52 (by decide) (fun c52 => ?_) (fun c52 => ?_)
        · refine lv_iconst (v := iZ (0)) hx hb d_Mo_readsBack_71 rfl ?_
          exact er_z hx hb hr hlocks (by decide) d_Mo_readsBack_72 (show iZ (0) = bZ (rbP vr vl vh (decide (mf % 2 = 0)) = true) from by first | exact (bZ_t (by unfold rbP; simp at *; omega)).symm | exact (bZ_f (by unfold rbP; simp at *; omega)).symm)
        · refine lv_iload_n hx hb d_Mo_readsBack_55 rfl (lv_at hl 0 rfl) ?_
          refine zv_if_lt (tgt := 67) hx hb d_Mo_readsBack_56 (by decide) (by omega) (fun c56 => ?_) (fun c56 => ?_)
          · refine lv_iconst (v := iZ (1)) hx hb d_Mo_readsBack_67 rfl ?_
            refine lv_goto (tgt := 72) hx hb d_Mo_readsBack_68 (by decide) ?_
            exact er_z hx hb hr hlocks (by decide) d_Mo_readsBack_72 (show iZ (1) = bZ (rbP vr vl vh (decide (mf % 2 = 0)) = true) from by first | exact (bZ_t (by unfold rbP; simp at *; omega)).symm | exact (bZ_f (by unfold rbP; simp at *; omega)).symm)
          · refine lv_iload_n hx hb d_Mo_readsBack_59 rfl (lv_at hl 0 rfl) ?_
            refine zv_if_ne (tgt := 71) hx hb d_Mo_readsBack_60 (by decide) (by omega) (fun c60 => ?_) (fun c60 => ?_)
            · refine lv_iconst (v := iZ (0)) hx hb d_Mo_readsBack_71 rfl ?_
              exact er_z hx hb hr hlocks (by decide) d_Mo_readsBack_72 (show iZ (0) = bZ (rbP vr vl vh (decide (mf % 2 = 0)) = true) from by first | exact (bZ_t (by unfold rbP; simp at *; omega)).symm | exact (bZ_f (by unfold rbP; simp at *; omega)).symm)
            · refine lv_iload_n hx hb d_Mo_readsBack_63 rfl (lv_at hl 2 rfl) ?_
              refine bv_if_eq (tgt := 71) hx hb d_Mo_readsBack_64 (by decide) (fun c64 => ?_) (fun c64 => ?_)
              · refine lv_iconst (v := iZ (0)) hx hb d_Mo_readsBack_71 rfl ?_
                exact er_z hx hb hr hlocks (by decide) d_Mo_readsBack_72 (show iZ (0) = bZ (rbP vr vl vh (decide (mf % 2 = 0)) = true) from by first | exact (bZ_t (by unfold rbP; simp at *; omega)).symm | exact (bZ_f (by unfold rbP; simp at *; omega)).symm)
              · refine lv_iconst (v := iZ (1)) hx hb d_Mo_readsBack_67 rfl ?_
                refine lv_goto (tgt := 72) hx hb d_Mo_readsBack_68 (by decide) ?_
                exact er_z hx hb hr hlocks (by decide) d_Mo_readsBack_72 (show iZ (1) = bZ (rbP vr vl vh (decide (mf % 2 = 0)) = true) from by first | exact (bZ_t (by unfold rbP; simp at *; omega)).symm | exact (bZ_f (by unfold rbP; simp at *; omega)).symm)
abbrev Qc_Mo_half (D : va_G) (h0 : Nat) (th : Int) (au : Nat) (al : Nat) (av : Nat) (ao : Nat) (ah : Nat) (ar : Nat) (ap : Nat) (t : List Nat) (ng : Bool) (me : Nat) (mf : Nat) (mb : Nat) (mm : Nat) (ms : Nat) (mt : Int) (mq : Nat) (mz : Int) (kV : ClassId) (fv : Nat → Int32) (v : Nat) (k : Nat) (A : Nat → Prop) : Array Value → State → Outcome → State → Prop := vp_Si (fun r : Int32 => r = iZ (haF v k))
set_option maxHeartbeats 4000000 in
set_option maxRecDepth 100000 in
theorem lp_Mo_half_40 {p : Program} {l : Launch} {e : Env} {s : State} {m : MethodId} {args : Array Value} {below : List Frame} {meth : Method} {c : Code} {A : Nat → Prop} {D : va_G} {Z : Nat → Nat} (h0 : Nat) (th : Int) (au : Nat) (al : Nat) (av : Nat) (ao : Nat) (ah : Nat) (ar : Nat) (ap : Nat) (t : List Nat) (ng : Bool) (me : Nat) (mf : Nat) (mb : Nat) (mm : Nat) (ms : Nat) (mt : Int) (mq : Nat) (mz : Int) (kV : ClassId) (fv : Nat → Int32) (v : Nat) (k : Nat) (hV : DigI fv v) (hk : k < 1404) (C0 : cxA p s m args meth c b_Mo_half 3 R_Mo (some .int)) (hA : ∀ q : Nat, s.heap.size ≤ q → A q) (hE : Ev Z A s s.heap) : ∀ (N : Nat) (i : Nat) (ls : Array Slot), k - i < N → (0 < k) → (dt v (k - 1) = 5) → (i ≤ k - 1) → (v % 10 ^ i = 0) → va_K D classes [(kV, .int)] s → va_P D classes [(h0, .inr (5, [.int (iZ (th)), .ref au, .ref al, .ref av, .ref ao, .ref ah, .ref ar, .ref ap, .int (iZ ((((t).length : Nat) : Int))), .int (bZ (ng = true)), .int (iZ (((me : Nat) : Int))), .long (lN (mf)), .int (iZ (((mb : Nat) : Int))), .int (iZ (((mm : Nat) : Int))), .long (lN (ms)), .int (iZ (mt)), .long (lN (mq)), .int (iZ (mz))])), (av, .inl (kV, 1404, .inl fv))] s.heap → va_D A [(h0, .inr (5, [.int (iZ (th)), .ref au, .ref al, .ref av, .ref ao, .ref ah, .ref ar, .ref ap, .int (iZ ((((t).length : Nat) : Int))), .int (bZ (ng = true)), .int (iZ (((me : Nat) : Int))), .long (lN (mf)), .int (iZ (((mb : Nat) : Int))), .int (iZ (((mm : Nat) : Int))), .long (lN (ms)), .int (iZ (mt)), .long (lN (mq)), .int (iZ (mz))])), (av, .inl (kV, 1404, .inl fv))] → va_S A s.heap s.heap [] → lv_has ls 3 [(0, .ref h0), (1, .int (iZ (((k : Nat) : Int)))), (2, .int (iZ (((i : Nat) : Int))))] → W p l e ({ frames := 0, cells := 0, slots := 0, locals := 0 } : Room) s m args below meth c s.heap [] 0 0 (MQ below (Qc_Mo_half D h0 th au al av ao ah ar ap t ng me mf mb mm ms mt mq mz kV fv v k A) args s 0 0 (fun _ => False)) (F0 m 40 ls []) := by
  obtain ⟨hx, hb, hml, hown, hts, hr, hlocks⟩ := id C0
  intro N
  induction N with
  | zero => intro i ls hN; exact absurd hN (Nat.not_lt_zero _)
  | succ N ih =>
    intro i ls hN hk0 h5 hi hm hK hP hD hS hl
    have hd := dt_lt v (k - 1)
    refine lv_iload_n hx hb d_Mo_half_40 rfl (lv_at hl 2 rfl) ?_
    refine lv_iload_n hx hb d_Mo_half_41 rfl (lv_at hl 1 rfl) ?_
    refine lv_iconst (v := iZ (1)) hx hb d_Mo_half_42 rfl ?_
    refine zv_isub hx hb d_Mo_half_43 ?_
    refine zv_top (y := iZ (((k - 1 : Nat) : Int))) (congrArg iZ (by omega)) ?_
    refine zv_icmp_ge (tgt := 64) hx hb d_Mo_half_44 (by decide) (by omega) (by omega) (fun c44 => ?_) (fun c44 => ?_)
    · have ei : i = k - 1 := by omega
      refine lv_iconst (v := iZ (0)) hx hb d_Mo_half_64 rfl ?_
      exact er_i hx hb hr hlocks d_Mo_half_65 (show iZ (0) = iZ (haF v k) from congrArg iZ (by unfold haF; rw [if_neg (by omega), if_pos (by rw [← ei]; exact hm)]))
    · have hdi := dt_lt v i
      refine lv_aload_n hx hb d_Mo_half_47 rfl (lv_at hl 0 rfl) ?_
      refine va_get (D := D) (ci := 5) (v := .ref av) (C := R_Mo) (T := F_Mo) (N := 18) hx hb hts i_Mo hown hK hP 0 rfl rfl 3 (by decide) (hts _ kw_299_) (fun _ h9 => h9) rfl d_Mo_half_48 ?_
      refine lv_iload_n hx hb d_Mo_half_51 rfl (lv_at hl 2 rfl) ?_
      refine zv_iald hx hb hK hP 1 0 rfl rfl i (rfl) (by omega) (by decide) d_Mo_half_52 ?_
      refine zv_top (y := iZ (((dt v i : Nat) : Int))) (hV.1 _ (by omega)) ?_
      refine zv_if_eq (tgt := 58) hx hb d_Mo_half_53 (by decide) (by omega) (fun c53 => ?_) (fun c53 => ?_)
      · refine lv_iinc (v := iZ (((i + 1 : Nat) : Int))) (lv' := [(2, .int (iZ (((i + 1 : Nat) : Int)))), (0, .ref h0), (1, .int (iZ (((k : Nat) : Int))))]) hx hb d_Mo_half_58 hl (k := 2) rfl ((iZ_add _ _).trans (congrArg iZ (by omega))) (by decide) rfl (fun ls hl => ?_)
        refine lv_goto (tgt := 40) hx hb d_Mo_half_61 (by decide) ?_
        exact ih (i + 1) _ (by omega) (hk0) (h5) (by omega) (mod0_dt.mpr ⟨hm, by omega⟩) (hK.sub [0] rfl) (hP.sub [0, 1] rfl) (hD.sub [0, 1] (by decide) rfl) hS (lv_sub hl [1, 2, 0] rfl)
      · refine lv_iconst (v := iZ (1)) hx hb d_Mo_half_56 rfl ?_
        exact er_i hx hb hr hlocks d_Mo_half_57 (show iZ (1) = iZ (haF v k) from congrArg iZ (by unfold haF; rw [if_neg (by omega), if_neg (mod0_up (show i < k - 1 by omega) (by omega))]))
set_option maxHeartbeats 4000000 in
set_option maxRecDepth 100000 in
theorem c_Mo_half (l : Launch) (D : va_G) (Z : Nat → Nat) (hz9 : Nat) (h0 : Nat) (th : Int) (au : Nat) (al : Nat) (av : Nat) (ao : Nat) (ah : Nat) (ar : Nat) (ap : Nat) (t : List Nat) (ng : Bool) (me : Nat) (mf : Nat) (mb : Nat) (mm : Nat) (ms : Nat) (mt : Int) (mq : Nat) (mz : Int) (kV : ClassId) (fv : Nat → Int32) (v : Nat) (k : Nat) (hV : DigI fv v) (hk : k < 1404) : Met l y_Mo_half (.code y_Mo_half b_Mo_half 3 (some .int) :: gT) ({ frames := 0, cells := 0, slots := 0, locals := 0 } : Room) (va_Pc [.ref h0, .int (iZ (((k : Nat) : Int)))] (cpre D Z [(h0, .inr (5, [.int (iZ (th)), .ref au, .ref al, .ref av, .ref ao, .ref ah, .ref ar, .ref ap, .int (iZ ((((t).length : Nat) : Int))), .int (bZ (ng = true)), .int (iZ (((me : Nat) : Int))), .long (lN (mf)), .int (iZ (((mb : Nat) : Int))), .int (iZ (((mm : Nat) : Int))), .long (lN (ms)), .int (iZ (mt)), .long (lN (mq)), .int (iZ (mz))])), (av, .inl (kV, 1404, .inl fv))] [(kV, .int)] hz9)) (Qc_Mo_half D h0 th au al av ao ah ar ap t ng me mf mb mm ms mt mq mz kV fv v k (va_A [(h0, .inr (5, [.int (iZ (th)), .ref au, .ref al, .ref av, .ref ao, .ref ah, .ref ar, .ref ap, .int (iZ ((((t).length : Nat) : Int))), .int (bZ (ng = true)), .int (iZ (((me : Nat) : Int))), .long (lN (mf)), .int (iZ (((mb : Nat) : Int))), .int (iZ (((mm : Nat) : Int))), .long (lN (ms)), .int (iZ (mt)), .long (lN (mq)), .int (iZ (mz))])), (av, .inl (kV, 1404, .inl fv))] hz9)) 0 0 (fun _ => False) := by
  refine met_go (Qf := Qc_Mo_half D h0 th au al av ao ah ar ap t ng me mf mb mm ms mt mq mz kV fv v k) (ff := fun _ _ => False) (by decide) ?_
  intro p e s m below meth c A C0 hin hsz9 hA hE hK hP hD
  obtain ⟨hx, hb, hml, hown, hts, hr, hlocks⟩ := id C0
  have hS : va_S A s.heap s.heap [] := va_S.rf
  have hl := lv_entry [.ref h0, .int (iZ (((k : Nat) : Int)))] (n := 3) (Nat.le_of_ble_eq_true rfl)
  rw [lg_entry_eq]
  generalize (lg_sl [.ref h0, .int (iZ (((k : Nat) : Int)))] ++ List.replicate (3 - (lg_sl [.ref h0, .int (iZ (((k : Nat) : Int)))]).length) Slot.unset).toArray = ls at hl ⊢
  have hl : lv_has ls 3 [(0, .ref h0), (1, .int (iZ (((k : Nat) : Int))))] := hl
  have hd := dt_lt v (k - 1)
  refine lv_iload_n hx hb d_Mo_half_0 rfl (lv_at hl 1 rfl) ?_
  refine zv_if_eq (tgt := 16) hx hb d_Mo_half_1 (by decide) (by omega) (fun c1 => ?_) (fun c1 => ?_)
  · refine lv_iload_n hx hb d_Mo_half_16 rfl (lv_at hl 1 rfl) ?_
    refine zv_if_le (tgt := 36) hx hb d_Mo_half_17 (by decide) (by omega) (fun c17 => ?_) (fun c17 => ?_)
    · refine lv_iconst (v := iZ (-1)) hx hb d_Mo_half_36 rfl ?_
      exact er_i hx hb hr hlocks d_Mo_half_37 (show iZ (-1) = iZ (haF v k) from congrArg iZ (by unfold haF; rw [if_pos (by omega), if_neg (by omega)]))
    · refine lv_aload_n hx hb d_Mo_half_20 rfl (lv_at hl 0 rfl) ?_
      refine va_get (D := D) (ci := 5) (v := .ref av) (C := R_Mo) (T := F_Mo) (N := 18) hx hb hts i_Mo hown hK hP 0 rfl rfl 3 (by decide) (hts _ kw_299_) (fun _ h9 => h9) rfl d_Mo_half_21 ?_
      refine lv_iload_n hx hb d_Mo_half_24 rfl (lv_at hl 1 rfl) ?_
      refine lv_iconst (v := iZ (1)) hx hb d_Mo_half_25 rfl ?_
      refine zv_isub hx hb d_Mo_half_26 ?_
      refine zv_top (y := iZ (((k - 1 : Nat) : Int))) (congrArg iZ (by omega)) ?_
      refine zv_iald hx hb hK hP 1 0 rfl rfl (k - 1) (rfl) (by omega) (by decide) d_Mo_half_27 ?_
      refine zv_top (y := iZ (((dt v (k - 1) : Nat) : Int))) (hV.1 _ (by omega)) ?_
      refine lv_iconst (v := iZ (5)) hx hb d_Mo_half_28 rfl ?_
      refine zv_icmp_le (tgt := 36) hx hb d_Mo_half_29 (by decide) (by omega) (by omega) (fun c29 => ?_) (fun c29 => ?_)
      · refine lv_iconst (v := iZ (-1)) hx hb d_Mo_half_36 rfl ?_
        exact er_i hx hb hr hlocks d_Mo_half_37 (show iZ (-1) = iZ (haF v k) from congrArg iZ (by unfold haF; rw [if_pos (by omega), if_neg (by omega)]))
      · refine lv_iconst (v := iZ (1)) hx hb d_Mo_half_32 rfl ?_
        refine lv_goto (tgt := 37) hx hb d_Mo_half_33 (by decide) ?_
        exact er_i hx hb hr hlocks d_Mo_half_37 (show iZ (1) = iZ (haF v k) from congrArg iZ (by unfold haF; rw [if_pos (by omega), if_pos (by omega)]))
  · refine lv_aload_n hx hb d_Mo_half_4 rfl (lv_at hl 0 rfl) ?_
    refine va_get (D := D) (ci := 5) (v := .ref av) (C := R_Mo) (T := F_Mo) (N := 18) hx hb hts i_Mo hown hK hP 0 rfl rfl 3 (by decide) (hts _ kw_299_) (fun _ h9 => h9) rfl d_Mo_half_5 ?_
    refine lv_iload_n hx hb d_Mo_half_8 rfl (lv_at hl 1 rfl) ?_
    refine lv_iconst (v := iZ (1)) hx hb d_Mo_half_9 rfl ?_
    refine zv_isub hx hb d_Mo_half_10 ?_
    refine zv_top (y := iZ (((k - 1 : Nat) : Int))) (congrArg iZ (by omega)) ?_
    refine zv_iald hx hb hK hP 1 0 rfl rfl (k - 1) (rfl) (by omega) (by decide) d_Mo_half_11 ?_
    refine zv_top (y := iZ (((dt v (k - 1) : Nat) : Int))) (hV.1 _ (by omega)) ?_
    refine lv_iconst (v := iZ (5)) hx hb d_Mo_half_12 rfl ?_
    refine zv_icmp_eq (tgt := 38) hx hb d_Mo_half_13 (by decide) (by omega) (by omega) (fun c13 => ?_) (fun c13 => ?_)
    · have h5 : dt v (k - 1) = 5 := by omega
      have hk0 : 0 < k := by omega
      refine lv_iconst (v := iZ (0)) hx hb d_Mo_half_38 rfl ?_
      refine zv_top (y := iZ (((0 : Nat) : Int))) (rfl) ?_
      refine lv_istore_n (lv' := [(2, .int (iZ (((0 : Nat) : Int)))), (0, .ref h0), (1, .int (iZ (((k : Nat) : Int))))]) hx hb d_Mo_half_39 rfl hl (by decide) rfl (fun ls hl => ?_)
      exact lp_Mo_half_40 h0 th au al av ao ah ar ap t ng me mf mb mm ms mt mq mz kV fv v k hV hk C0 hA hE (k - 0 + 1) 0 _ (Nat.lt_succ_self _) (hk0) (h5) (by omega) (by rw [Nat.pow_zero, Nat.mod_one]) (hK.sub [0] rfl) (hP.sub [0, 1] rfl) (hD.sub [0, 1] (by decide) rfl) hS (lv_sub hl [1, 2, 0] rfl)
    · refine lv_iload_n hx hb d_Mo_half_16 rfl (lv_at hl 1 rfl) ?_
      refine zv_if_le (tgt := 36) hx hb d_Mo_half_17 (by decide) (by omega) (fun c17 => ?_) (fun c17 => ?_)
      · refine lv_iconst (v := iZ (-1)) hx hb d_Mo_half_36 rfl ?_
        exact er_i hx hb hr hlocks d_Mo_half_37 (show iZ (-1) = iZ (haF v k) from congrArg iZ (by unfold haF; rw [if_pos (by omega), if_neg (by omega)]))
      · refine lv_aload_n hx hb d_Mo_half_20 rfl (lv_at hl 0 rfl) ?_
        refine va_get (D := D) (ci := 5) (v := .ref av) (C := R_Mo) (T := F_Mo) (N := 18) hx hb hts i_Mo hown hK hP 0 rfl rfl 3 (by decide) (hts _ kw_299_) (fun _ h9 => h9) rfl d_Mo_half_21 ?_
        refine lv_iload_n hx hb d_Mo_half_24 rfl (lv_at hl 1 rfl) ?_
        refine lv_iconst (v := iZ (1)) hx hb d_Mo_half_25 rfl ?_
        refine zv_isub hx hb d_Mo_half_26 ?_
        refine zv_top (y := iZ (((k - 1 : Nat) : Int))) (congrArg iZ (by omega)) ?_
        refine zv_iald hx hb hK hP 1 0 rfl rfl (k - 1) (rfl) (by omega) (by decide) d_Mo_half_27 ?_
        refine zv_top (y := iZ (((dt v (k - 1) : Nat) : Int))) (hV.1 _ (by omega)) ?_
        refine lv_iconst (v := iZ (5)) hx hb d_Mo_half_28 rfl ?_
        refine zv_icmp_le (tgt := 36) hx hb d_Mo_half_29 (by decide) (by omega) (by omega) (fun c29 => ?_) (fun c29 => ?_)
        · refine lv_iconst (v := iZ (-1)) hx hb d_Mo_half_36 rfl ?_
          exact er_i hx hb hr hlocks d_Mo_half_37 (show iZ (-1) = iZ (haF v k) from congrArg iZ (by unfold haF; rw [if_pos (by omega), if_neg (by omega)]))
        · refine lv_iconst (v := iZ (1)) hx hb d_Mo_half_32 rfl ?_
          refine lv_goto (tgt := 37) hx hb d_Mo_half_33 (by decide) ?_
          exact er_i hx hb hr hlocks d_Mo_half_37 (show iZ (1) = iZ (haF v k) from congrArg iZ (by unfold haF; rw [if_pos (by omega), if_pos (by omega)]))
