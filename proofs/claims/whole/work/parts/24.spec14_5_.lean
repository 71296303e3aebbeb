theorem kw_228_ : Cond.constantLong R_Sheet 48 (255) ∈ gT := gT_in 139 (by decide +kernel) (by decide +kernel)
theorem kw_229_ : Cond.static y_FW_isFinite ∈ gT := gT_in 263 (by decide +kernel) (by decide +kernel)
theorem kw_230_ : Cond.methodLink R_FW 37 y_FW_isFinite ∈ gT := gT_in 262 (by decide +kernel) (by decide +kernel)
set_option maxRecDepth 100000 in
theorem q_y_FW_isFinite : Cond.code y_FW_isFinite b_FW_isFinite 3 (some .boolean) ∈ gT := gT_in 264 rfl rfl
theorem hd_y_FW_isFinite : y_FW_isFinite.cls ≠ "java/lang/invoke/MethodHandle" ∧ y_FW_isFinite.cls ≠ "java/lang/invoke/VarHandle" ∧ (parseMethodDescriptor y_FW_isFinite.desc).map (fun d => d.parameters.length) = some 2 := by decide +kernel
theorem d_Sheet_eightFrom_0 : decode b_Sheet_eightFrom 0 = .ok (.lconst 0, 1) := by decide +kernel
theorem d_Sheet_eightFrom_1 : decode b_Sheet_eightFrom 1 = .ok (.lstore_n 2, 1) := by decide +kernel
theorem d_Sheet_eightFrom_2 : decode b_Sheet_eightFrom 2 = .ok (.iconst 0, 1) := by decide +kernel
theorem d_Sheet_eightFrom_3 : decode b_Sheet_eightFrom 3 = .ok (.istore 4, 2) := by decide +kernel
theorem d_Sheet_eightFrom_5 : decode b_Sheet_eightFrom 5 = .ok (.iload 4, 2) := by decide +kernel
theorem d_Sheet_eightFrom_7 : decode b_Sheet_eightFrom 7 = .ok (.bipush 8, 2) := by decide +kernel
theorem d_Sheet_eightFrom_9 : decode b_Sheet_eightFrom 9 = .ok (.if_icmp .ge 57, 3) := by decide +kernel
theorem d_Sheet_eightFrom_12 : decode b_Sheet_eightFrom 12 = .ok (.iload_n 1, 1) := by decide +kernel
theorem d_Sheet_eightFrom_13 : decode b_Sheet_eightFrom 13 = .ok (.i2l, 1) := by decide +kernel
theorem d_Sheet_eightFrom_14 : decode b_Sheet_eightFrom 14 = .ok (.iload 4, 2) := by decide +kernel
theorem d_Sheet_eightFrom_16 : decode b_Sheet_eightFrom 16 = .ok (.i2l, 1) := by decide +kernel
theorem d_Sheet_eightFrom_17 : decode b_Sheet_eightFrom 17 = .ok (.ladd, 1) := by decide +kernel
theorem d_Sheet_eightFrom_18 : decode b_Sheet_eightFrom 18 = .ok (.lstore 5, 2) := by decide +kernel
theorem d_Sheet_eightFrom_20 : decode b_Sheet_eightFrom 20 = .ok (.lload 5, 2) := by decide +kernel
theorem d_Sheet_eightFrom_22 : decode b_Sheet_eightFrom 22 = .ok (.lconst 0, 1) := by decide +kernel
theorem d_Sheet_eightFrom_23 : decode b_Sheet_eightFrom 23 = .ok (.lcmp, 1) := by decide +kernel
theorem d_Sheet_eightFrom_24 : decode b_Sheet_eightFrom 24 = .ok (.ifCond .lt 36, 3) := by decide +kernel
theorem d_Sheet_eightFrom_27 : decode b_Sheet_eightFrom 27 = .ok (.lload 5, 2) := by decide +kernel
theorem d_Sheet_eightFrom_29 : decode b_Sheet_eightFrom 29 = .ok (.aload_n 0, 1) := by decide +kernel
theorem d_Sheet_eightFrom_30 : decode b_Sheet_eightFrom 30 = .ok (.getfield 13, 3) := by decide +kernel
theorem d_Sheet_eightFrom_33 : decode b_Sheet_eightFrom 33 = .ok (.i2l, 1) := by decide +kernel
theorem d_Sheet_eightFrom_34 : decode b_Sheet_eightFrom 34 = .ok (.lcmp, 1) := by decide +kernel
theorem d_Sheet_eightFrom_35 : decode b_Sheet_eightFrom 35 = .ok (.ifCond .ge 25, 3) := by decide +kernel
theorem d_Sheet_eightFrom_38 : decode b_Sheet_eightFrom 38 = .ok (.lload_n 2, 1) := by decide +kernel
theorem d_Sheet_eightFrom_39 : decode b_Sheet_eightFrom 39 = .ok (.aload_n 0, 1) := by decide +kernel
theorem d_Sheet_eightFrom_40 : decode b_Sheet_eightFrom 40 = .ok (.getfield 9, 3) := by decide +kernel
theorem d_Sheet_eightFrom_43 : decode b_Sheet_eightFrom 43 = .ok (.lload 5, 2) := by decide +kernel
theorem d_Sheet_eightFrom_45 : decode b_Sheet_eightFrom 45 = .ok (.l2i, 1) := by decide +kernel
theorem d_Sheet_eightFrom_46 : decode b_Sheet_eightFrom 46 = .ok (.baload, 1) := by decide +kernel
theorem d_Sheet_eightFrom_47 : decode b_Sheet_eightFrom 47 = .ok (.i2l, 1) := by decide +kernel
theorem d_Sheet_eightFrom_48 : decode b_Sheet_eightFrom 48 = .ok (.ldc2_w 48, 3) := by decide +kernel
theorem d_Sheet_eightFrom_51 : decode b_Sheet_eightFrom 51 = .ok (.land, 1) := by decide +kernel
theorem d_Sheet_eightFrom_52 : decode b_Sheet_eightFrom 52 = .ok (.bipush 8, 2) := by decide +kernel
theorem d_Sheet_eightFrom_54 : decode b_Sheet_eightFrom 54 = .ok (.iload 4, 2) := by decide +kernel
theorem d_Sheet_eightFrom_56 : decode b_Sheet_eightFrom 56 = .ok (.imul, 1) := by decide +kernel
theorem d_Sheet_eightFrom_57 : decode b_Sheet_eightFrom 57 = .ok (.lshl, 1) := by decide +kernel
theorem d_Sheet_eightFrom_58 : decode b_Sheet_eightFrom 58 = .ok (.lor, 1) := by decide +kernel
theorem d_Sheet_eightFrom_59 : decode b_Sheet_eightFrom 59 = .ok (.lstore_n 2, 1) := by decide +kernel
theorem d_Sheet_eightFrom_60 : decode b_Sheet_eightFrom 60 = .ok (.iinc 4 1, 3) := by decide +kernel
theorem d_Sheet_eightFrom_63 : decode b_Sheet_eightFrom 63 = .ok (.goto (-58), 3) := by decide +kernel
theorem d_Sheet_eightFrom_66 : decode b_Sheet_eightFrom 66 = .ok (.lload_n 2, 1) := by decide +kernel
theorem d_Sheet_eightFrom_67 : decode b_Sheet_eightFrom 67 = .ok (.lreturn, 1) := by decide +kernel
theorem d_FW_refuseHighBits_0 : decode b_FW_refuseHighBits 0 = .ok (.iload_n 2, 1) := by decide +kernel
theorem d_FW_refuseHighBits_1 : decode b_FW_refuseHighBits 1 = .ok (.ifCond .eq 22, 3) := by decide +kernel
theorem d_FW_refuseHighBits_4 : decode b_FW_refuseHighBits 4 = .ok (.lload_n 0, 1) := by decide +kernel
theorem d_FW_refuseHighBits_5 : decode b_FW_refuseHighBits 5 = .ok (.bipush 32, 2) := by decide +kernel
theorem d_FW_refuseHighBits_7 : decode b_FW_refuseHighBits 7 = .ok (.lushr, 1) := by decide +kernel
theorem d_FW_refuseHighBits_8 : decode b_FW_refuseHighBits 8 = .ok (.lconst 0, 1) := by decide +kernel
theorem d_FW_refuseHighBits_9 : decode b_FW_refuseHighBits 9 = .ok (.lcmp, 1) := by decide +kernel
theorem d_FW_refuseHighBits_10 : decode b_FW_refuseHighBits 10 = .ok (.ifCond .eq 13, 3) := by decide +kernel
theorem d_FW_refuseHighBits_13 : decode b_FW_refuseHighBits 13 = .ok (.new 125, 3) := by decide +kernel
theorem d_FW_refuseHighBits_16 : decode b_FW_refuseHighBits 16 = .ok (.dup, 1) := by decide +kernel
theorem d_FW_refuseHighBits_17 : decode b_FW_refuseHighBits 17 = .ok (.ldc 127, 2) := by decide +kernel
theorem d_FW_refuseHighBits_19 : decode b_FW_refuseHighBits 19 = .ok (.invokespecial 129, 3) := by decide +kernel
theorem d_FW_refuseHighBits_22 : decode b_FW_refuseHighBits 22 = .ok (.athrow, 1) := by decide +kernel
theorem d_FW_refuseHighBits_23 : decode b_FW_refuseHighBits 23 = .ok (.return_, 1) := by decide +kernel
theorem d_FW_refuseOutside_0 : decode b_FW_refuseOutside 0 = .ok (.iload_n 0, 1) := by decide +kernel
theorem d_FW_refuseOutside_1 : decode b_FW_refuseOutside 1 = .ok (.iload_n 1, 1) := by decide +kernel
theorem d_FW_refuseOutside_2 : decode b_FW_refuseOutside 2 = .ok (.if_icmp .lt 8, 3) := by decide +kernel
theorem d_FW_refuseOutside_5 : decode b_FW_refuseOutside 5 = .ok (.iload_n 0, 1) := by decide +kernel
theorem d_FW_refuseOutside_6 : decode b_FW_refuseOutside 6 = .ok (.iload_n 2, 1) := by decide +kernel
theorem d_FW_refuseOutside_7 : decode b_FW_refuseOutside 7 = .ok (.if_icmp .le 13, 3) := by decide +kernel
theorem d_FW_refuseOutside_10 : decode b_FW_refuseOutside 10 = .ok (.new 125, 3) := by decide +kernel
theorem d_FW_refuseOutside_13 : decode b_FW_refuseOutside 13 = .ok (.dup, 1) := by decide +kernel
theorem d_FW_refuseOutside_14 : decode b_FW_refuseOutside 14 = .ok (.ldc 132, 2) := by decide +kernel
theorem d_FW_refuseOutside_16 : decode b_FW_refuseOutside 16 = .ok (.invokespecial 129, 3) := by decide +kernel
theorem d_FW_refuseOutside_19 : decode b_FW_refuseOutside 19 = .ok (.athrow, 1) := by decide +kernel
theorem d_FW_refuseOutside_20 : decode b_FW_refuseOutside 20 = .ok (.return_, 1) := by decide +kernel
theorem d_FW_refuseNotFinite_0 : decode b_FW_refuseNotFinite 0 = .ok (.lload_n 0, 1) := by decide +kernel
theorem d_FW_refuseNotFinite_1 : decode b_FW_refuseNotFinite 1 = .ok (.iload_n 2, 1) := by decide +kernel
theorem d_FW_refuseNotFinite_2 : decode b_FW_refuseNotFinite 2 = .ok (.invokestatic 37, 3) := by decide +kernel
theorem d_FW_refuseNotFinite_5 : decode b_FW_refuseNotFinite 5 = .ok (.ifCond .ne 13, 3) := by decide +kernel
theorem d_FW_refuseNotFinite_8 : decode b_FW_refuseNotFinite 8 = .ok (.new 134, 3) := by decide +kernel
theorem d_FW_refuseNotFinite_11 : decode b_FW_refuseNotFinite 11 = .ok (.dup, 1) := by decide +kernel
theorem d_FW_refuseNotFinite_12 : decode b_FW_refuseNotFinite 12 = .ok (.ldc 136, 2) := by decide +kernel
theorem d_FW_refuseNotFinite_14 : decode b_FW_refuseNotFinite 14 = .ok (.invokespecial 138, 3) := by decide +kernel
theorem d_FW_refuseNotFinite_17 : decode b_FW_refuseNotFinite 17 = .ok (.athrow, 1) := by decide +kernel
theorem d_FW_refuseNotFinite_18 : decode b_FW_refuseNotFinite 18 = .ok (.return_, 1) := by decide +kernel
abbrev Qc_Sheet_eightFrom (D : va_G) (h0 : Nat) (qb : Nat) (cAb : ClassId) (g : Nat → Int32) (t : List Nat) (i : Int) (A : Nat → Prop) : Array Value → State → Outcome → State → Prop := vp_Sl (fun r : Int64 => r = lN (eiT t i 8))
set_option maxHeartbeats 4000000 in
set_option maxRecDepth 100000 in
theorem lp_Sheet_eightFrom_5 {p : Program} {l : Launch} {e : Env} {s : State} {m : MethodId} {args : Array Value} {below : List Frame} {meth : Method} {c : Code} {A : Nat → Prop} {D : va_G} {Z : Nat → Nat} (h0 : Nat) (qb : Nat) (cAb : ClassId) (g : Nat → Int32) (t : List Nat) (i : Int) (hT : PaperIs g t) (hi : -2147483648 ≤ i ∧ i < 2147483648) (C0 : cxA p s m args meth c b_Sheet_eightFrom 7 R_Sheet (some .long)) (hA : ∀ q : Nat, s.heap.size ≤ q → A q) (hE : Ev Z A s s.heap) : ∀ (N : Nat) (k : Nat) (ls : Array Slot), 8 - k < N → (k ≤ 8) → va_K D classes [(cAb, .byte)] s → va_P D classes [(h0, .inr (1, [.ref qb, .int (iZ ((((t).length : Nat) : Int)))])), (qb, .inl (cAb, 1440, .inl g))] s.heap → va_D A [(h0, .inr (1, [.ref qb, .int (iZ ((((t).length : Nat) : Int)))])), (qb, .inl (cAb, 1440, .inl g))] → va_S A s.heap s.heap [] → lv_has ls 7 [(0, .ref h0), (1, .int (iZ (i))), (2, .long (lN (eiT t i k))), (4, .int (iZ (((k : Nat) : Int))))] → W p l e ({ frames := 0, cells := 0, slots := 0, locals := 0 } : Room) s m args below meth c s.heap [] 0 0 (MQ below (Qc_Sheet_eightFrom D h0 qb cAb g t i A) args s 0 0 (fun _ => False)) (F0 m 5 ls []) := by
  obtain ⟨hx, hb, hml, hown, hts, hr, hlocks⟩ := id C0
  intro N
  induction N with
  | zero => intro k ls hN; exact absurd hN (Nat.not_lt_zero _)
  | succ N ih =>
    intro k ls hN hk hK hP hD hS hl
    have hlt := hT.1
    refine lv_iload hx hb d_Sheet_eightFrom_5 (lv_at hl 3 rfl) ?_
    refine lv_bipush (v := iZ (8)) hx hb d_Sheet_eightFrom_7 (by decide) ?_
    refine zv_icmp_ge (tgt := 66) hx hb d_Sheet_eightFrom_9 (by decide) (by omega) (by omega) (fun c9 => ?_) (fun c9 => ?_)
    · have e8 : k = 8 := by omega
      refine lv_lload_n hx hb d_Sheet_eightFrom_66 rfl (lv_at hl 2 rfl) ?_
      exact er_l hx hb hr hlocks d_Sheet_eightFrom_67 (show lN (eiT t i k) = lN (eiT t i 8) from by rw [e8])
    · refine lv_iload_n hx hb d_Sheet_eightFrom_12 rfl (lv_at hl 1 rfl) ?_
      refine zv_i2l hx hb d_Sheet_eightFrom_13 (by omega) ?_
      refine lv_iload hx hb d_Sheet_eightFrom_14 (lv_at hl 3 rfl) ?_
      refine zv_i2l hx hb d_Sheet_eightFrom_16 (by omega) ?_
      refine zl_ladd hx hb d_Sheet_eightFrom_17 ?_
      refine lv_lstore (lv' := [(5, .long (lZ (i + ((k : Nat) : Int)))), (0, .ref h0), (1, .int (iZ (i))), (2, .long (lN (eiT t i k))), (4, .int (iZ (((k : Nat) : Int))))]) hx hb d_Sheet_eightFrom_18 hl (by decide) rfl (fun ls hl => ?_)
      refine lv_lload hx hb d_Sheet_eightFrom_20 (lv_at hl 0 rfl) ?_
      refine lv_lconst (v := lN 0) hx hb d_Sheet_eightFrom_22 rfl ?_
      refine nv_top (y := lZ (0)) (by decide) ?_
      refine zl_lcmp_lt (tgt := 60) hx hb d_Sheet_eightFrom_23 d_Sheet_eightFrom_24 (by decide) (by omega) (by omega) (fun c23 => ?_) (fun c23 => ?_)
      · have eK : eiT t i (k + 1) = eiT t i k := by rw [eiT, if_neg (by omega), Nat.zero_mul]; rfl
        refine lv_iinc (v := iZ (((k + 1 : Nat) : Int))) (lv' := [(4, .int (iZ (((k + 1 : Nat) : Int)))), (5, .long (lZ (i + ((k : Nat) : Int)))), (0, .ref h0), (1, .int (iZ (i))), (2, .long (lN (eiT t i k)))]) hx hb d_Sheet_eightFrom_60 hl (k := 4) rfl ((iZ_add _ _).trans (congrArg iZ (by omega))) (by decide) rfl (fun ls hl => ?_)
        refine lv_goto (tgt := 5) hx hb d_Sheet_eightFrom_63 (by decide) ?_
        rw [← eK] at hl
        exact ih (k + 1) _ (by omega) (by omega) (hK.sub [0] rfl) (hP.sub [0, 1] rfl) (hD.sub [0, 1] (by decide) rfl) hS (lv_sub hl [2, 3, 4, 0] rfl)
      · refine lv_lload hx hb d_Sheet_eightFrom_27 (lv_at hl 0 rfl) ?_
        refine lv_aload_n hx hb d_Sheet_eightFrom_29 rfl (lv_at hl 1 rfl) ?_
        refine va_get (D := D) (ci := 1) (v := .int (iZ ((((t).length : Nat) : Int)))) (C := R_Sheet) (T := F_Sheet) (N := 2) hx hb hts i_Sheet hown hK hP 0 rfl rfl 1 (by decide) (hts _ kw_88_) (fun _ h9 => h9) rfl d_Sheet_eightFrom_30 ?_
        refine zv_i2l hx hb d_Sheet_eightFrom_33 (by omega) ?_
        refine zl_lcmp_ge (tgt := 60) hx hb d_Sheet_eightFrom_34 d_Sheet_eightFrom_35 (by decide) (by omega) (by omega) (fun c34 => ?_) (fun c34 => ?_)
        · have eK : eiT t i (k + 1) = eiT t i k := by rw [eiT, if_neg (by omega), Nat.zero_mul]; rfl
          refine lv_iinc (v := iZ (((k + 1 : Nat) : Int))) (lv' := [(4, .int (iZ (((k + 1 : Nat) : Int)))), (5, .long (lZ (i + ((k : Nat) : Int)))), (0, .ref h0), (1, .int (iZ (i))), (2, .long (lN (eiT t i k)))]) hx hb d_Sheet_eightFrom_60 hl (k := 4) rfl ((iZ_add _ _).trans (congrArg iZ (by omega))) (by decide) rfl (fun ls hl => ?_)
          refine lv_goto (tgt := 5) hx hb d_Sheet_eightFrom_63 (by decide) ?_
          rw [← eK] at hl
          exact ih (k + 1) _ (by omega) (by omega) (hK.sub [0] rfl) (hP.sub [0, 1] rfl) (hD.sub [0, 1] (by decide) rfl) hS (lv_sub hl [2, 3, 4, 0] rfl)
        · have hq : i + ((k : Nat) : Int) = (((i + ((k : Nat) : Int)).toNat : Nat) : Int) := by omega
          have hx1 := getD_lt hT.2.2 (i + ((k : Nat) : Int)).toNat
          have hx2 := eiT_lt hT.2.2 i k
          have hx3 : (2 : Nat) ^ (8 * k) ≤ 2 ^ 56 := Nat.pow_le_pow_right (by decide) (by omega)
          have hx4 : t.getD (i + ((k : Nat) : Int)).toNat 0 * 2 ^ (8 * k) ≤ 127 * 2 ^ 56 := Nat.mul_le_mul (by omega) hx3
          have hx5 : (2 : Nat) ^ 56 = 72057594037927936 := rfl
          have eK : eiT t i k ||| (t.getD (i + ((k : Nat) : Int)).toNat 0) * 2 ^ (8 * k) = eiT t i (k + 1) := by rw [eiT_or hT.2.2 _ _ _ (by omega), eiT, if_pos (by omega)]
          refine lv_lload_n hx hb d_Sheet_eightFrom_38 rfl (lv_at hl 3 rfl) ?_
          refine lv_aload_n hx hb d_Sheet_eightFrom_39 rfl (lv_at hl 1 rfl) ?_
          refine va_get (D := D) (ci := 1) (v := .ref qb) (C := R_Sheet) (T := F_Sheet) (N := 2) hx hb hts i_Sheet hown hK hP 0 rfl rfl 0 (by decide) (hts _ kw_87_) (fun _ h9 => h9) rfl d_Sheet_eightFrom_40 ?_
          refine lv_lload hx hb d_Sheet_eightFrom_43 (lv_at hl 0 rfl) ?_
          refine nv_top (y := lN ((i + ((k : Nat) : Int)).toNat)) (lZ_n hq) ?_
          refine nv_l2i hx hb d_Sheet_eightFrom_45 ?_
          refine zv_bald hx hb hK hP 1 0 rfl rfl ((i + ((k : Nat) : Int)).toNat) (rfl) (by omega) (by decide) d_Sheet_eightFrom_46 ?_
          refine zv_top (y := iZ (((t.getD (i + ((k : Nat) : Int)).toNat 0 : Nat) : Int))) (hT.2.1 (i + ((k : Nat) : Int)).toNat (by omega)) ?_
          refine nv_i2l (n := (t.getD (i + ((k : Nat) : Int)).toNat 0)) hx hb d_Sheet_eightFrom_47 (by omega) (by omega) ?_
          refine lv_ldc2 (v := (255)) hx hb hown (hts _ kw_228_) d_Sheet_eightFrom_48 ?_
          refine nv_top (y := lN 255) (by decide) ?_
          refine nv_land hx hb d_Sheet_eightFrom_51 (by omega) (by decide) ?_
          refine nv_top (y := lN (t.getD (i + ((k : Nat) : Int)).toNat 0)) (congrArg lN (and_255n hx1)) ?_
          refine lv_bipush (v := iZ (8)) hx hb d_Sheet_eightFrom_52 (by decide) ?_
          refine lv_iload hx hb d_Sheet_eightFrom_54 (lv_at hl 4 rfl) ?_
          refine zv_imul hx hb d_Sheet_eightFrom_56 ?_
          refine zv_top (y := iZ (((8 * k : Nat) : Int))) (congrArg iZ (by simp)) ?_
          refine nv_lshl (k := (8 * k)) hx hb d_Sheet_eightFrom_57 (rfl) (by omega) ?_
          refine nv_lor hx hb d_Sheet_eightFrom_58 (by omega) (by omega) ?_
          refine nv_top (y := lN (eiT t i (k + 1))) (congrArg lN eK) ?_
          refine lv_lstore_n (lv' := [(2, .long (lN (eiT t i (k + 1)))), (5, .long (lZ (i + ((k : Nat) : Int)))), (0, .ref h0), (1, .int (iZ (i))), (4, .int (iZ (((k : Nat) : Int))))]) hx hb d_Sheet_eightFrom_59 rfl hl (by decide) rfl (fun ls hl => ?_)
          refine lv_iinc (v := iZ (((k + 1 : Nat) : Int))) (lv' := [(4, .int (iZ (((k + 1 : Nat) : Int)))), (2, .long (lN (eiT t i (k + 1)))), (5, .long (lZ (i + ((k : Nat) : Int)))), (0, .ref h0), (1, .int (iZ (i)))]) hx hb d_Sheet_eightFrom_60 hl (k := 4) rfl ((iZ_add _ _).trans (congrArg iZ (by omega))) (by decide) rfl (fun ls hl => ?_)
          refine lv_goto (tgt := 5) hx hb d_Sheet_eightFrom_63 (by decide) ?_
          exact ih (k + 1) _ (by omega) (by omega) (hK.sub [0] rfl) (hP.sub [0, 1] rfl) (hD.sub [0, 1] (by decide) rfl) hS (lv_sub hl [3, 4, 1, 0] rfl)
set_option maxHeartbeats 4000000 in
set_option maxRecDepth 100000 in
theorem c_Sheet_eightFrom (l : Launch) (D : va_G) (Z : Nat → Nat) (hz9 : Nat) (h0 : Nat) (qb : Nat) (cAb : ClassId) (g : Nat → Int32) (t : List Nat) (i : Int) (hT : PaperIs g t) (hi : -2147483648 ≤ i ∧ i < 2147483648) : Met l y_Sheet_eightFrom (.code y_Sheet_eightFrom b_Sheet_eightFrom 7 (some .long) :: gT) ({ frames := 0, cells := 0, slots := 0, locals := 0 } : Room) (va_Pc [.ref h0, .int (iZ (i))] (cpre D Z [(h0, .inr (1, [.ref qb, .int (iZ ((((t).length : Nat) : Int)))])), (qb, .inl (cAb, 1440, .inl g))] [(cAb, .byte)] hz9)) (Qc_Sheet_eightFrom D h0 qb cAb g t i (va_A [(h0, .inr (1, [.ref qb, .int (iZ ((((t).length : Nat) : Int)))])), (qb, .inl (cAb, 1440, .inl g))] hz9)) 0 0 (fun _ => False) := by
  refine met_go (Qf := Qc_Sheet_eightFrom D h0 qb cAb g t i) (ff := fun _ _ => False) (by decide) ?_
  intro p e s m below meth c A C0 hin hsz9 hA hE hK hP hD
  obtain ⟨hx, hb, hml, hown, hts, hr, hlocks⟩ := id C0
  have hS : va_S A s.heap s.heap [] := va_S.rf
  have hl := lv_entry [.ref h0, .int (iZ (i))] (n := 7) (Nat.le_of_ble_eq_true rfl)
  rw [lg_entry_eq]
  generalize (lg_sl [.ref h0, .int (iZ (i))] ++ List.replicate (7 - (lg_sl [.ref h0, .int (iZ (i))]).length) Slot.unset).toArray = ls at hl ⊢
  have hl : lv_has ls 7 [(0, .ref h0), (1, .int (iZ (i)))] := hl
  have hlt := hT.1
  refine lv_lconst (v := lN 0) hx hb d_Sheet_eightFrom_0 rfl ?_
  refine nv_top (y := lN (eiT t i 0)) (rfl) ?_
  refine lv_lstore_n (lv' := [(2, .long (lN (eiT t i 0))), (0, .ref h0), (1, .int (iZ (i)))]) hx hb d_Sheet_eightFrom_1 rfl hl (by decide) rfl (fun ls hl => ?_)
  refine lv_iconst (v := iZ (0)) hx hb d_Sheet_eightFrom_2 rfl ?_
  refine zv_top (y := iZ (((0 : Nat) : Int))) (rfl) ?_
  refine lv_istore (lv' := [(4, .int (iZ (((0 : Nat) : Int)))), (2, .long (lN (eiT t i 0))), (0, .ref h0), (1, .int (iZ (i)))]) hx hb d_Sheet_eightFrom_3 hl (by decide) rfl (fun ls hl => ?_)
  exact lp_Sheet_eightFrom_5 h0 qb cAb g t i hT hi C0 hA hE (8 - 0 + 1) 0 _ (Nat.lt_succ_self _) (by omega) (hK.sub [0] rfl) (hP.sub [0, 1] rfl) (hD.sub [0, 1] (by decide) rfl) hS (lv_sub hl [2, 3, 1, 0] rfl)
abbrev Qc_FW_refuseHighBits (D : va_G) (b : Nat) (nw : Bool) (A : Nat → Prop) : Array Value → State → Outcome → State → Prop := va_Sv (fun _ => True)
set_option maxHeartbeats 4000000 in
set_option maxRecDepth 100000 in
theorem c_FW_refuseHighBits (l : Launch) (D : va_G) (Z : Nat → Nat) (hz9 : Nat) (b : Nat) (nw : Bool) (hb9 : b < 18446744073709551616) (hok : nw = true → b < 4294967296) : Met l y_FW_refuseHighBits (.code y_FW_refuseHighBits b_FW_refuseHighBits 3 none :: gT) ({ frames := 0, cells := 0, slots := 0, locals := 0 } : Room) (va_Pc [.long (lN (b)), .int (bZ (nw = true))] (cpre D Z [] [] hz9)) (Qc_FW_refuseHighBits D b nw (va_A [] hz9)) 0 0 (fun _ => False) := by
  refine met_go (Qf := Qc_FW_refuseHighBits D b nw) (ff := fun _ _ => False) (by decide) ?_
  intro p e s m below meth c A C0 hin hsz9 hA hE hK hP hD
  obtain ⟨hx, hb, hml, hown, hts, hr, hlocks⟩ := id C0
  have hS : va_S A s.heap s.heap [] := va_S.rf
  have hl := lv_entry [.long (lN (b)), .int (bZ (nw = true))] (n := 3) (Nat.le_of_ble_eq_true rfl)
  rw [lg_entry_eq]
  generalize (lg_sl [.long (lN (b)), .int (bZ (nw = true))] ++ List.replicate (3 - (lg_sl [.long (lN (b)), .int (bZ (nw = true))]).length) Slot.unset).toArray = ls at hl ⊢
  have hl : lv_has ls 3 [(0, .long (lN (b))), (2, .int (bZ (nw = true)))] := hl
  refine lv_iload_n hx hb d_FW_refuseHighBits_0 rfl (lv_at hl 1 rfl) ?_
  refine bv_if_eq (tgt := 23) hx hb d_FW_refuseHighBits_1 (by decide) (fun c1 => ?_) (fun c1 => ?_)
  · exact er_v hx hb hr hlocks d_FW_refuseHighBits_23
  · refine lv_lload_n hx hb d_FW_refuseHighBits_4 rfl (lv_at hl 0 rfl) ?_
    refine lv_bipush (v := iZ (32)) hx hb d_FW_refuseHighBits_5 (by decide) ?_
    refine nv_lushr (k := 32) hx hb d_FW_refuseHighBits_7 (rfl) (by omega) (by omega) ?_
    refine lv_lconst (v := lN 0) hx hb d_FW_refuseHighBits_8 rfl ?_
    refine nv_lcmp_eq (tgt := 23) hx hb d_FW_refuseHighBits_9 d_FW_refuseHighBits_10 (by decide) (by omega) (by decide) (fun c9 => ?_) (fun c9 => absurd c9 (by have := hok c1; omega))
    exact er_v hx hb hr hlocks d_FW_refuseHighBits_23
abbrev Qc_FW_refuseOutside (D : va_G) (z1 : Int) (z2 : Int) (z3 : Int) (A : Nat → Prop) : Array Value → State → Outcome → State → Prop := va_Sv (fun _ => True)
set_option maxHeartbeats 4000000 in
set_option maxRecDepth 100000 in
theorem c_FW_refuseOutside (l : Launch) (D : va_G) (Z : Nat → Nat) (hz9 : Nat) (z1 : Int) (z2 : Int) (z3 : Int) (hok : z2 ≤ z1 ∧ z1 ≤ z3) (hrg : -2147483648 ≤ z2 ∧ z3 < 2147483648) : Met l y_FW_refuseOutside (.code y_FW_refuseOutside b_FW_refuseOutside 3 none :: gT) ({ frames := 0, cells := 0, slots := 0, locals := 0 } : Room) (va_Pc [.int (iZ (z1)), .int (iZ (z2)), .int (iZ (z3))] (cpre D Z [] [] hz9)) (Qc_FW_refuseOutside D z1 z2 z3 (va_A [] hz9)) 0 0 (fun _ => False) := by
  refine met_go (Qf := Qc_FW_refuseOutside D z1 z2 z3) (ff := fun _ _ => False) (by decide) ?_
  intro p e s m below meth c A C0 hin hsz9 hA hE hK hP hD
  obtain ⟨hx, hb, hml, hown, hts, hr, hlocks⟩ := id C0
  have hS : va_S A s.heap s.heap [] := va_S.rf
  have hl := lv_entry [.int (iZ (z1)), .int (iZ (z2)), .int (iZ (z3))] (n := 3) (Nat.le_of_ble_eq_true rfl)
  rw [lg_entry_eq]
  generalize (lg_sl [.int (iZ (z1)), .int (iZ (z2)), .int (iZ (z3))] ++ List.replicate (3 - (lg_sl [.int (iZ (z1)), .int (iZ (z2)), .int (iZ (z3))]).length) Slot.unset).toArray = ls at hl ⊢
  have hl : lv_has ls 3 [(0, .int (iZ (z1))), (1, .int (iZ (z2))), (2, .int (iZ (z3)))] := hl
  refine lv_iload_n hx hb d_FW_refuseOutside_0 rfl (lv_at hl 0 rfl) ?_
  refine lv_iload_n hx hb d_FW_refuseOutside_1 rfl (lv_at hl 1 rfl) ?_
  refine zv_icmp_lt (tgt := 10) hx hb d_FW_refuseOutside_2 (by decide) (by omega) (by omega) (fun c2 => absurd c2 (by omega)) (fun c2 => ?_)
  refine lv_iload_n hx hb d_FW_refuseOutside_5 rfl (lv_at hl 0 rfl) ?_
  refine lv_iload_n hx hb d_FW_refuseOutside_6 rfl (lv_at hl 2 rfl) ?_
  refine zv_icmp_le (tgt := 20) hx hb d_FW_refuseOutside_7 (by decide) (by omega) (by omega) (fun c7 => ?_) (fun c7 => absurd c7 (by omega))
  exact er_v hx hb hr hlocks d_FW_refuseOutside_20
abbrev Qc_FW_refuseNotFinite (D : va_G) (b : Nat) (nw : Bool) (A : Nat → Prop) : Array Value → State → Outcome → State → Prop := va_Sv (fun _ => True)
set_option maxHeartbeats 4000000 in
set_option maxRecDepth 100000 in
theorem c_FW_refuseNotFinite (l : Launch) (D : va_G) (Z : Nat → Nat) (hz9 : Nat) (b : Nat) (nw : Bool) (hb9 : b < 18446744073709551616) (hfin : fSz b nw < fI nw) : Met l y_FW_refuseNotFinite (.code y_FW_refuseNotFinite b_FW_refuseNotFinite 3 none :: gT) ({ frames := 3, cells := 0, slots := 0, locals := 64 } : Room) (va_Pc [.long (lN (b)), .int (bZ (nw = true))] (cpre D Z [] [] hz9)) (Qc_FW_refuseNotFinite D b nw (va_A [] hz9)) 0 0 (fun _ => False) := by
  refine met_go (Qf := Qc_FW_refuseNotFinite D b nw) (ff := fun _ _ => False) (by decide) ?_
  intro p e s m below meth c A C0 hin hsz9 hA hE hK hP hD
  obtain ⟨hx, hb, hml, hown, hts, hr, hlocks⟩ := id C0
  have hS : va_S A s.heap s.heap [] := va_S.rf
  have hl := lv_entry [.long (lN (b)), .int (bZ (nw = true))] (n := 3) (Nat.le_of_ble_eq_true rfl)
  rw [lg_entry_eq]
  generalize (lg_sl [.long (lN (b)), .int (bZ (nw = true))] ++ List.replicate (3 - (lg_sl [.long (lN (b)), .int (bZ (nw = true))]).length) Slot.unset).toArray = ls at hl ⊢
  have hl : lv_has ls 3 [(0, .long (lN (b))), (2, .int (bZ (nw = true)))] := hl
  refine lv_lload_n hx hb d_FW_refuseNotFinite_0 rfl (lv_at hl 0 rfl) ?_
  refine lv_iload_n hx hb d_FW_refuseNotFinite_1 rfl (lv_at hl 1 rfl) ?_
  refine kg_i (kr_S (As := [.long (lN (b)), .int (bZ (nw = true))]) (rest := []) C0 (c_FW_isFinite l D Z _ b nw (by assumption)) q_y_FW_isFinite kw_230_ kw_229_ kw_3_ hd_y_FW_isFinite rfl rfl ⟨Nat.le_of_ble_eq_true rfl, Nat.le_of_ble_eq_true rfl⟩ (hP.sub (ws' := []) [] rfl) (hD.sub (ws' := []) [] (by decide) rfl) (hK.sub (tys' := []) [] rfl) hE hS (va_free (wc := []) hD hS hA [] rfl) rfl hl.1 rfl (Nat.le_of_ble_eq_true rfl) d_FW_refuseNotFinite_2 ⟨Nat.le_of_ble_eq_true rfl, Nat.le_of_ble_eq_true rfl⟩) (fun r hr1 => ?_)
  obtain rfl : r = bZ (fSz b nw < fI nw) := hr1
  refine bv_if_ne (tgt := 18) hx hb d_FW_refuseNotFinite_5 (by decide) (fun c5 => ?_) (fun c5 => absurd c5 (by omega))
  exact er_v hx hb hr hlocks d_FW_refuseNotFinite_18
