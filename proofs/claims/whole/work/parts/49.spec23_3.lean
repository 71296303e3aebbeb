theorem d_Mo_number_0 : decode b_Mo_number 0 = .ok (.iconst 1, 1) := by decide +kernel
theorem d_Mo_number_1 : decode b_Mo_number 1 = .ok (.istore_n 2, 1) := by decide +kernel
theorem d_Mo_number_2 : decode b_Mo_number 2 = .ok (.iload_n 1, 1) := by decide +kernel
theorem d_Mo_number_3 : decode b_Mo_number 3 = .ok (.iload_n 2, 1) := by decide +kernel
theorem d_Mo_number_4 : decode b_Mo_number 4 = .ok (.idiv, 1) := by decide +kernel
theorem d_Mo_number_5 : decode b_Mo_number 5 = .ok (.bipush 9, 2) := by decide +kernel
theorem d_Mo_number_7 : decode b_Mo_number 7 = .ok (.if_icmp .le 11, 3) := by decide +kernel
theorem d_Mo_number_10 : decode b_Mo_number 10 = .ok (.iload_n 2, 1) := by decide +kernel
theorem d_Mo_number_11 : decode b_Mo_number 11 = .ok (.bipush 10, 2) := by decide +kernel
theorem d_Mo_number_13 : decode b_Mo_number 13 = .ok (.imul, 1) := by decide +kernel
theorem d_Mo_number_14 : decode b_Mo_number 14 = .ok (.istore_n 2, 1) := by decide +kernel
theorem d_Mo_number_15 : decode b_Mo_number 15 = .ok (.goto (-13), 3) := by decide +kernel
theorem d_Mo_number_18 : decode b_Mo_number 18 = .ok (.iload_n 2, 1) := by decide +kernel
theorem d_Mo_number_19 : decode b_Mo_number 19 = .ok (.ifCond .le 24, 3) := by decide +kernel
theorem d_Mo_number_22 : decode b_Mo_number 22 = .ok (.aload_n 0, 1) := by decide +kernel
theorem d_Mo_number_23 : decode b_Mo_number 23 = .ok (.bipush 48, 2) := by decide +kernel
theorem d_Mo_number_25 : decode b_Mo_number 25 = .ok (.iload_n 1, 1) := by decide +kernel
theorem d_Mo_number_26 : decode b_Mo_number 26 = .ok (.iload_n 2, 1) := by decide +kernel
theorem d_Mo_number_27 : decode b_Mo_number 27 = .ok (.idiv, 1) := by decide +kernel
theorem d_Mo_number_28 : decode b_Mo_number 28 = .ok (.bipush 10, 2) := by decide +kernel
theorem d_Mo_number_30 : decode b_Mo_number 30 = .ok (.irem, 1) := by decide +kernel
theorem d_Mo_number_31 : decode b_Mo_number 31 = .ok (.iadd, 1) := by decide +kernel
theorem d_Mo_number_32 : decode b_Mo_number 32 = .ok (.invokevirtual 110, 3) := by decide +kernel
theorem d_Mo_number_35 : decode b_Mo_number 35 = .ok (.iload_n 2, 1) := by decide +kernel
theorem d_Mo_number_36 : decode b_Mo_number 36 = .ok (.bipush 10, 2) := by decide +kernel
theorem d_Mo_number_38 : decode b_Mo_number 38 = .ok (.idiv, 1) := by decide +kernel
theorem d_Mo_number_39 : decode b_Mo_number 39 = .ok (.istore_n 2, 1) := by decide +kernel
theorem d_Mo_number_40 : decode b_Mo_number 40 = .ok (.goto (-22), 3) := by decide +kernel
theorem d_Mo_number_43 : decode b_Mo_number 43 = .ok (.return_, 1) := by decide +kernel
abbrev Qc_Mo_number (D : va_G) (h0 : Nat) (th : Int) (au : Nat) (al : Nat) (av : Nat) (ao : Nat) (ah : Nat) (ar : Nat) (ap : Nat) (t : List Nat) (ng : Bool) (me : Nat) (mf : Nat) (mb : Nat) (mm : Nat) (ms : Nat) (mt : Int) (mq : Nat) (mz : Int) (kP : ClassId) (fp : Nat → Int32) (n : Nat) (A : Nat → Prop) : Array Value → State → Outcome → State → Prop := va_Qv (fun u : Nat → Int32 => MPap u (t ++ numQ n 4)) (fun (u : Nat → Int32) t9 => cpost D A [(h0, .inr (5, [.int (iZ (th)), .ref au, .ref al, .ref av, .ref ao, .ref ah, .ref ar, .ref ap, .int (iZ ((((t ++ numQ n 4).length : Nat) : Int))), .int (bZ (ng = true)), .int (iZ (((me : Nat) : Int))), .long (lN (mf)), .int (iZ (((mb : Nat) : Int))), .int (iZ (((mm : Nat) : Int))), .long (lN (ms)), .int (iZ (mt)), .long (lN (mq)), .int (iZ (mz))])), (ap, .inl (kP, 1600, .inl u))] [(kP, .int)] t9) A
set_option maxHeartbeats 4000000 in
set_option maxRecDepth 100000 in
theorem lp_Mo_number_18 {p : Program} {l : Launch} {e : Env} {s : State} {m : MethodId} {args : Array Value} {below : List Frame} {meth : Method} {c : Code} {A : Nat → Prop} {D : va_G} {Z : Nat → Nat} (h0 : Nat) (th : Int) (au : Nat) (al : Nat) (av : Nat) (ao : Nat) (ah : Nat) (ar : Nat) (ap : Nat) (t : List Nat) (ng : Bool) (me : Nat) (mf : Nat) (mb : Nat) (mm : Nat) (ms : Nat) (mt : Int) (mq : Nat) (mz : Int) (kP : ClassId) (fp : Nat → Int32) (n : Nat) (hp8 : MPap fp t) (hn : n < 10000) (hl8 : t.length + 5 ≤ 1600) (C0 : cxA p s m args meth c b_Mo_number 3 R_Mo none) (hA : ∀ q : Nat, s.heap.size ≤ q → A q) (hE : Ev Z A s s.heap) : ∀ (N : Nat) (j : Nat) (g2 : Nat → Int32) (H : Heap) (locs : List Loc) (ls : Array Slot), 4 - j < N → (j ≤ 4) → (MPap g2 (t ++ numQ n j)) → (j = 4 ∨ 3 - j = 0 ∨ 0 < n / 10 ^ (3 - j)) → va_K D classes [(kP, .int)] s → va_P D classes [(h0, .inr (5, [.int (iZ (th)), .ref au, .ref al, .ref av, .ref ao, .ref ah, .ref ar, .ref ap, .int (iZ ((((t ++ numQ n j).length : Nat) : Int))), .int (bZ (ng = true)), .int (iZ (((me : Nat) : Int))), .long (lN (mf)), .int (iZ (((mb : Nat) : Int))), .int (iZ (((mm : Nat) : Int))), .long (lN (ms)), .int (iZ (mt)), .long (lN (mq)), .int (iZ (mz))])), (ap, .inl (kP, 1600, .inl g2))] H → va_D A [(h0, .inr (5, [.int (iZ (th)), .ref au, .ref al, .ref av, .ref ao, .ref ah, .ref ar, .ref ap, .int (iZ ((((t ++ numQ n j).length : Nat) : Int))), .int (bZ (ng = true)), .int (iZ (((me : Nat) : Int))), .long (lN (mf)), .int (iZ (((mb : Nat) : Int))), .int (iZ (((mm : Nat) : Int))), .long (lN (ms)), .int (iZ (mt)), .long (lN (mq)), .int (iZ (mz))])), (ap, .inl (kP, 1600, .inl g2))] → va_S A s.heap H locs → lv_has ls 3 [(0, .ref h0), (1, .int (iZ (((n : Nat) : Int)))), (2, .int (iZ (((10 ^ (4 - j) / 10 : Nat) : Int))))] → W p l e ({ frames := 1, cells := 0, slots := 0, locals := 21 } : Room) s m args below meth c H locs 0 0 (MQ below (Qc_Mo_number D h0 th au al av ao ah ar ap t ng me mf mb mm ms mt mq mz kP fp n A) args s 0 0 A) (F0 m 18 ls []) := by
  obtain ⟨hx, hb, hml, hown, hts, hr, hlocks⟩ := id C0
  intro N
  induction N with
  | zero => intro j g2 H locs ls hN; exact absurd hN (Nat.not_lt_zero _)
  | succ N ih =>
    intro j g2 H locs ls hN hj hg hlo hK hP hD hS hl
    refine lv_iload_n hx hb d_Mo_number_18 rfl (lv_at hl 2 rfl) ?_
    have hp4 := ten_j hj
    refine zv_if_le (tgt := 43) hx hb d_Mo_number_19 (by decide) (nat_in hp4) (fun c19 => ?_) (fun c19 => ?_)
    · have ej : j = 4 := ten_0 hj (by omega)
      have hTx : t ++ numQ n 4 = (t ++ numQ n j) := by rw [ej]
      have hP : va_P D classes [(h0, .inr (5, [.int (iZ (th)), .ref au, .ref al, .ref av, .ref ao, .ref ah, .ref ar, .ref ap, .int (iZ ((((t ++ numQ n 4).length : Nat) : Int))), .int (bZ (ng = true)), .int (iZ (((me : Nat) : Int))), .long (lN (mf)), .int (iZ (((mb : Nat) : Int))), .int (iZ (((mm : Nat) : Int))), .long (lN (ms)), .int (iZ (mt)), .long (lN (mq)), .int (iZ (mz))])), (ap, .inl (kP, 1600, .inl g2))] H := by rw [hTx]; exact hP
      have hD : va_D A [(h0, .inr (5, [.int (iZ (th)), .ref au, .ref al, .ref av, .ref ao, .ref ah, .ref ar, .ref ap, .int (iZ ((((t ++ numQ n 4).length : Nat) : Int))), .int (bZ (ng = true)), .int (iZ (((me : Nat) : Int))), .long (lN (mf)), .int (iZ (((mb : Nat) : Int))), .int (iZ (((mm : Nat) : Int))), .long (lN (ms)), .int (iZ (mt)), .long (lN (mq)), .int (iZ (mz))])), (ap, .inl (kP, 1600, .inl g2))] := by rw [hTx]; exact hD
      exact ew_v g2 hx hb hr hlocks d_Mo_number_43 (show MPap g2 (t ++ numQ n 4) from by rw [hTx]; exact hg) (hP.sub (ws' := [(h0, .inr (5, [.int (iZ (th)), .ref au, .ref al, .ref av, .ref ao, .ref ah, .ref ar, .ref ap, .int (iZ ((((t ++ numQ n 4).length : Nat) : Int))), .int (bZ (ng = true)), .int (iZ (((me : Nat) : Int))), .long (lN (mf)), .int (iZ (((mb : Nat) : Int))), .int (iZ (((mm : Nat) : Int))), .long (lN (ms)), .int (iZ (mt)), .long (lN (mq)), .int (iZ (mz))])), (ap, .inl (kP, 1600, .inl g2))]) [0, 1] rfl) (hD.sub (ws' := [(h0, .inr (5, [.int (iZ (th)), .ref au, .ref al, .ref av, .ref ao, .ref ah, .ref ar, .ref ap, .int (iZ ((((t ++ numQ n 4).length : Nat) : Int))), .int (bZ (ng = true)), .int (iZ (((me : Nat) : Int))), .long (lN (mf)), .int (iZ (((mb : Nat) : Int))), .int (iZ (((mm : Nat) : Int))), .long (lN (ms)), .int (iZ (mt)), .long (lN (mq)), .int (iZ (mz))])), (ap, .inl (kP, 1600, .inl g2))]) [0, 1] (by decide) rfl) (hK.sub (tys' := [(kP, .int)]) [0] rfl) hS (Nat.le_of_ble_eq_true rfl) (Nat.le_of_ble_eq_true rfl)
    · have ej : j < 4 := ten_l hj (by omega)
      refine lv_aload_n hx hb d_Mo_number_22 rfl (lv_at hl 0 rfl) ?_
      refine lv_bipush (v := iZ (48)) hx hb d_Mo_number_23 (by decide) ?_
      refine lv_iload_n hx hb d_Mo_number_25 rfl (lv_at hl 1 rfl) ?_
      refine lv_iload_n hx hb d_Mo_number_26 rfl (lv_at hl 2 rfl) ?_
      refine zv_idiv hx hb d_Mo_number_27 (by omega) (by omega) ?_
      refine zv_top (y := iZ (((n / 10 ^ (3 - j) : Nat) : Int))) (congrArg iZ (ten_div n ej)) ?_
      refine lv_bipush (v := iZ (10)) hx hb d_Mo_number_28 (by decide) ?_
      refine zv_irem hx hb d_Mo_number_30 (num_in hn) (by omega) ?_
      refine zv_top (y := iZ (((n / 10 ^ (3 - j) % 10 : Nat) : Int))) (rfl) ?_
      refine zv_iadd hx hb d_Mo_number_31 ?_
      refine zv_top (y := iZ (((chr (n / 10 ^ (3 - j) % 10) : Nat) : Int))) (congrArg iZ (by unfold chr; rw [if_pos (Nat.mod_lt _ (by decide))]; simp)) ?_
      refine kw_v (wr := []) (tr := []) (kr_V (C0 := R_Mo) (ci := 5) (i0 := 0) (As := [.int (iZ (((chr (n / 10 ^ (3 - j) % 10) : Nat) : Int)))]) (rest := []) C0 (c_Mo_add l D Z _ h0 th au al av ao ah ar ap (t ++ numQ n j) ng me mf mb mm ms mt mq mz kP g2 (chr (n / 10 ^ (3 - j) % 10)) (by assumption) (chr_lt (Nat.lt_trans (Nat.mod_lt _ (by decide)) (by decide))) (by have := numQ_len n j; rw [List.length_append]; omega)) q_y_Mo_add kw_347_ kw_348_ kw_349_ kw_314_ hd_y_Mo_add rfl rfl ⟨Nat.le_of_ble_eq_true rfl, Nat.le_of_ble_eq_true rfl⟩ (hP.sub (ws' := [(h0, .inr (5, [.int (iZ (th)), .ref au, .ref al, .ref av, .ref ao, .ref ah, .ref ar, .ref ap, .int (iZ (((((t ++ numQ n j)).length : Nat) : Int))), .int (bZ (ng = true)), .int (iZ (((me : Nat) : Int))), .long (lN (mf)), .int (iZ (((mb : Nat) : Int))), .int (iZ (((mm : Nat) : Int))), .long (lN (ms)), .int (iZ (mt)), .long (lN (mq)), .int (iZ (mz))])), (ap, .inl (kP, 1600, .inl g2))]) [0, 1] rfl) (hD.sub (ws' := [(h0, .inr (5, [.int (iZ (th)), .ref au, .ref al, .ref av, .ref ao, .ref ah, .ref ar, .ref ap, .int (iZ (((((t ++ numQ n j)).length : Nat) : Int))), .int (bZ (ng = true)), .int (iZ (((me : Nat) : Int))), .long (lN (mf)), .int (iZ (((mb : Nat) : Int))), .int (iZ (((mm : Nat) : Int))), .long (lN (ms)), .int (iZ (mt)), .long (lN (mq)), .int (iZ (mz))])), (ap, .inl (kP, 1600, .inl g2))]) [0, 1] (by decide) rfl) (hK.sub (tys' := [(kP, .int)]) [0] rfl) hE hS (va_free (wc := [(h0, .inr (5, [.int (iZ (th)), .ref au, .ref al, .ref av, .ref ao, .ref ah, .ref ar, .ref ap, .int (iZ (((((t ++ numQ n j)).length : Nat) : Int))), .int (bZ (ng = true)), .int (iZ (((me : Nat) : Int))), .long (lN (mf)), .int (iZ (((mb : Nat) : Int))), .int (iZ (((mm : Nat) : Int))), .long (lN (ms)), .int (iZ (mt)), .long (lN (mq)), .int (iZ (mz))])), (ap, .inl (kP, 1600, .inl g2))]) hD hS hA [0, 1] rfl) rfl rfl rfl hl.1 rfl (Nat.le_of_ble_eq_true rfl) d_Mo_number_32 ⟨Nat.le_of_ble_eq_true rfl, Nat.le_of_ble_eq_true rfl⟩) hP hD hK hS hA [0, 1] [] [] rfl rfl (by decide) (by decide) rfl (fun g32 H locs hpost hP hD hK hS => ?_)
      have hw32 : MPap g32 ((t ++ numQ n j) ++ [(chr (n / 10 ^ (3 - j) % 10))]) := hpost
      have hP : va_P D classes [(h0, .inr (5, [.int (iZ (th)), .ref au, .ref al, .ref av, .ref ao, .ref ah, .ref ar, .ref ap, .int (iZ (((((t ++ numQ n j) ++ [(chr (n / 10 ^ (3 - j) % 10))]).length : Nat) : Int))), .int (bZ (ng = true)), .int (iZ (((me : Nat) : Int))), .long (lN (mf)), .int (iZ (((mb : Nat) : Int))), .int (iZ (((mm : Nat) : Int))), .long (lN (ms)), .int (iZ (mt)), .long (lN (mq)), .int (iZ (mz))])), (ap, .inl (kP, 1600, .inl g32))] H := hP
      have hD : va_D A [(h0, .inr (5, [.int (iZ (th)), .ref au, .ref al, .ref av, .ref ao, .ref ah, .ref ar, .ref ap, .int (iZ (((((t ++ numQ n j) ++ [(chr (n / 10 ^ (3 - j) % 10))]).length : Nat) : Int))), .int (bZ (ng = true)), .int (iZ (((me : Nat) : Int))), .long (lN (mf)), .int (iZ (((mb : Nat) : Int))), .int (iZ (((mm : Nat) : Int))), .long (lN (ms)), .int (iZ (mt)), .long (lN (mq)), .int (iZ (mz))])), (ap, .inl (kP, 1600, .inl g32))] := hD
      have hK : va_K D classes [(kP, .int)] s := hK
      refine lv_iload_n hx hb d_Mo_number_35 rfl (lv_at hl 2 rfl) ?_
      refine lv_bipush (v := iZ (10)) hx hb d_Mo_number_36 (by decide) ?_
      refine zv_idiv hx hb d_Mo_number_38 (by omega) (by omega) ?_
      refine zv_top (y := iZ (((10 ^ (4 - (j + 1)) / 10 : Nat) : Int))) (congrArg iZ (ten_next ej)) ?_
      refine lv_istore_n (lv' := [(2, .int (iZ (((10 ^ (4 - (j + 1)) / 10 : Nat) : Int)))), (0, .ref h0), (1, .int (iZ (((n : Nat) : Int))))]) hx hb d_Mo_number_39 rfl hl (by decide) rfl (fun ls hl => ?_)
      refine lv_goto (tgt := 18) hx hb d_Mo_number_40 (by decide) ?_
      have ht0 : t ++ numQ n (j + 1) = ((t ++ numQ n j) ++ [(chr (n / 10 ^ (3 - j) % 10))]) := by rw [numQ_t (by omega), List.append_assoc]
      have hP : va_P D classes [(h0, .inr (5, [.int (iZ (th)), .ref au, .ref al, .ref av, .ref ao, .ref ah, .ref ar, .ref ap, .int (iZ ((((t ++ numQ n (j + 1)).length : Nat) : Int))), .int (bZ (ng = true)), .int (iZ (((me : Nat) : Int))), .long (lN (mf)), .int (iZ (((mb : Nat) : Int))), .int (iZ (((mm : Nat) : Int))), .long (lN (ms)), .int (iZ (mt)), .long (lN (mq)), .int (iZ (mz))])), (ap, .inl (kP, 1600, .inl g32))] H := by rw [ht0]; exact hP
      have hD : va_D A [(h0, .inr (5, [.int (iZ (th)), .ref au, .ref al, .ref av, .ref ao, .ref ah, .ref ar, .ref ap, .int (iZ ((((t ++ numQ n (j + 1)).length : Nat) : Int))), .int (bZ (ng = true)), .int (iZ (((me : Nat) : Int))), .long (lN (mf)), .int (iZ (((mb : Nat) : Int))), .int (iZ (((mm : Nat) : Int))), .long (lN (ms)), .int (iZ (mt)), .long (lN (mq)), .int (iZ (mz))])), (ap, .inl (kP, 1600, .inl g32))] := by rw [ht0]; exact hD
      exact ih (j + 1) g32 _ _ _ (by omega) (by omega) (by rw [ht0]; exact hw32) (num_lo hlo ej) (hK.sub [0] rfl) (hP.sub [0, 1] rfl) (hD.sub [0, 1] (by decide) rfl) hS (lv_sub hl [1, 2, 0] rfl)
set_option maxHeartbeats 4000000 in
set_option maxRecDepth 100000 in
theorem lp_Mo_number_2 {p : Program} {l : Launch} {e : Env} {s : State} {m : MethodId} {args : Array Value} {below : List Frame} {meth : Method} {c : Code} {A : Nat → Prop} {D : va_G} {Z : Nat → Nat} (h0 : Nat) (th : Int) (au : Nat) (al : Nat) (av : Nat) (ao : Nat) (ah : Nat) (ar : Nat) (ap : Nat) (t : List Nat) (ng : Bool) (me : Nat) (mf : Nat) (mb : Nat) (mm : Nat) (ms : Nat) (mt : Int) (mq : Nat) (mz : Int) (kP : ClassId) (fp : Nat → Int32) (n : Nat) (hp8 : MPap fp t) (hn : n < 10000) (hl8 : t.length + 5 ≤ 1600) (C0 : cxA p s m args meth c b_Mo_number 3 R_Mo none) (hA : ∀ q : Nat, s.heap.size ≤ q → A q) (hE : Ev Z A s s.heap) : ∀ (N : Nat) (i : Nat) (H : Heap) (locs : List Loc) (ls : Array Slot), 3 - i < N → (i ≤ 3) → (i = 0 ∨ 0 < n / 10 ^ i) → va_K D classes [(kP, .int)] s → va_P D classes [(h0, .inr (5, [.int (iZ (th)), .ref au, .ref al, .ref av, .ref ao, .ref ah, .ref ar, .ref ap, .int (iZ ((((t).length : Nat) : Int))), .int (bZ (ng = true)), .int (iZ (((me : Nat) : Int))), .long (lN (mf)), .int (iZ (((mb : Nat) : Int))), .int (iZ (((mm : Nat) : Int))), .long (lN (ms)), .int (iZ (mt)), .long (lN (mq)), .int (iZ (mz))])), (ap, .inl (kP, 1600, .inl fp))] H → va_D A [(h0, .inr (5, [.int (iZ (th)), .ref au, .ref al, .ref av, .ref ao, .ref ah, .ref ar, .ref ap, .int (iZ ((((t).length : Nat) : Int))), .int (bZ (ng = true)), .int (iZ (((me : Nat) : Int))), .long (lN (mf)), .int (iZ (((mb : Nat) : Int))), .int (iZ (((mm : Nat) : Int))), .long (lN (ms)), .int (iZ (mt)), .long (lN (mq)), .int (iZ (mz))])), (ap, .inl (kP, 1600, .inl fp))] → va_S A s.heap H locs → lv_has ls 3 [(0, .ref h0), (1, .int (iZ (((n : Nat) : Int)))), (2, .int (iZ (((10 ^ i : Nat) : Int))))] → W p l e ({ frames := 1, cells := 0, slots := 0, locals := 21 } : Room) s m args below meth c H locs 0 0 (MQ below (Qc_Mo_number D h0 th au al av ao ah ar ap t ng me mf mb mm ms mt mq mz kP fp n A) args s 0 0 A) (F0 m 2 ls []) := by
  obtain ⟨hx, hb, hml, hown, hts, hr, hlocks⟩ := id C0
  intro N
  induction N with
  | zero => intro i H locs ls hN; exact absurd hN (Nat.not_lt_zero _)
  | succ N ih =>
    intro i H locs ls hN hi hlo hK hP hD hS hl
    refine lv_iload_n hx hb d_Mo_number_2 rfl (lv_at hl 1 rfl) ?_
    refine lv_iload_n hx hb d_Mo_number_3 rfl (lv_at hl 2 rfl) ?_
    have hpi : 0 < 10 ^ i := Nat.pow_pos (by decide)
    have hpl : 10 ^ i ≤ 10 ^ 3 := p10_le hi
    have hpm : (10 : Nat) ^ 3 = 1000 := rfl
    have hnd := Nat.div_le_self n (10 ^ i)
    refine zv_idiv hx hb d_Mo_number_4 (by omega) (by omega) ?_
    refine zv_top (y := iZ (((n / 10 ^ i : Nat) : Int))) (congrArg iZ (by simp)) ?_
    refine lv_bipush (v := iZ (9)) hx hb d_Mo_number_5 (by decide) ?_
    refine zv_icmp_le (tgt := 18) hx hb d_Mo_number_7 (by decide) (num_in2 hn) (by omega) (fun c7 => ?_) (fun c7 => ?_)
    · have hn9 : n < 10 ^ (i + 1) := num_9 (by omega : n / 10 ^ i ≤ 9)
      have ht0 : t ++ numQ n (3 - i) = (t) := by rw [numQ_nil hn9 _ (by omega), List.append_nil]
      have hP : va_P D classes [(h0, .inr (5, [.int (iZ (th)), .ref au, .ref al, .ref av, .ref ao, .ref ah, .ref ar, .ref ap, .int (iZ ((((t ++ numQ n (3 - i)).length : Nat) : Int))), .int (bZ (ng = true)), .int (iZ (((me : Nat) : Int))), .long (lN (mf)), .int (iZ (((mb : Nat) : Int))), .int (iZ (((mm : Nat) : Int))), .long (lN (ms)), .int (iZ (mt)), .long (lN (mq)), .int (iZ (mz))])), (ap, .inl (kP, 1600, .inl fp))] H := by rw [ht0]; exact hP
      have hD : va_D A [(h0, .inr (5, [.int (iZ (th)), .ref au, .ref al, .ref av, .ref ao, .ref ah, .ref ar, .ref ap, .int (iZ ((((t ++ numQ n (3 - i)).length : Nat) : Int))), .int (bZ (ng = true)), .int (iZ (((me : Nat) : Int))), .long (lN (mf)), .int (iZ (((mb : Nat) : Int))), .int (iZ (((mm : Nat) : Int))), .long (lN (ms)), .int (iZ (mt)), .long (lN (mq)), .int (iZ (mz))])), (ap, .inl (kP, 1600, .inl fp))] := by rw [ht0]; exact hD
      have e10 : 10 ^ (4 - (3 - i)) / 10 = 10 ^ i := by rw [show 4 - (3 - i) = i + 1 by omega, Nat.pow_succ, Nat.mul_div_cancel _ (by decide)]
      rw [← e10] at hl
      exact lp_Mo_number_18 h0 th au al av ao ah ar ap t ng me mf mb mm ms mt mq mz kP fp n hp8 hn hl8 C0 hA hE (4 - (3 - i) + 1) (3 - i) fp _ _ _ (Nat.lt_succ_self _) (by omega) (by rw [ht0]; exact hp8) (num_go hlo hi) (hK.sub [0] rfl) (hP.sub [0, 1] rfl) (hD.sub [0, 1] (by decide) rfl) hS (lv_sub hl [0, 1, 2] rfl)
    · refine lv_iload_n hx hb d_Mo_number_10 rfl (lv_at hl 2 rfl) ?_
      refine lv_bipush (v := iZ (10)) hx hb d_Mo_number_11 (by decide) ?_
      refine zv_imul hx hb d_Mo_number_13 ?_
      refine zv_top (y := iZ (((10 ^ (i + 1) : Nat) : Int))) (congrArg iZ (by rw [Nat.pow_succ]; simp)) ?_
      refine lv_istore_n (lv' := [(2, .int (iZ (((10 ^ (i + 1) : Nat) : Int)))), (0, .ref h0), (1, .int (iZ (((n : Nat) : Int))))]) hx hb d_Mo_number_14 rfl hl (by decide) rfl (fun ls hl => ?_)
      refine lv_goto (tgt := 2) hx hb d_Mo_number_15 (by decide) ?_
      have hnq : 9 < n / 10 ^ i := by omega
      exact ih (i + 1) _ _ _ (by have := num_i hn hnq hi; omega) (num_i hn hnq hi) (Or.inr (by rw [Nat.pow_succ, ← Nat.div_div_eq_div_mul]; omega)) (hK.sub [0] rfl) (hP.sub [0, 1] rfl) (hD.sub [0, 1] (by decide) rfl) hS (lv_sub hl [1, 2, 0] rfl)
set_option maxHeartbeats 4000000 in
set_option maxRecDepth 100000 in
theorem c_Mo_number (l : Launch) (D : va_G) (Z : Nat → Nat) (hz9 : Nat) (h0 : Nat) (th : Int) (au : Nat) (al : Nat) (av : Nat) (ao : Nat) (ah : Nat) (ar : Nat) (ap : Nat) (t : List Nat) (ng : Bool) (me : Nat) (mf : Nat) (mb : Nat) (mm : Nat) (ms : Nat) (mt : Int) (mq : Nat) (mz : Int) (kP : ClassId) (fp : Nat → Int32) (n : Nat) (hp8 : MPap fp t) (hn : n < 10000) (hl8 : t.length + 5 ≤ 1600) : Met l y_Mo_number (.code y_Mo_number b_Mo_number 3 none :: gT) ({ frames := 1, cells := 0, slots := 0, locals := 21 } : Room) (va_Pc [.ref h0, .int (iZ (((n : Nat) : Int)))] (cpre D Z [(h0, .inr (5, [.int (iZ (th)), .ref au, .ref al, .ref av, .ref ao, .ref ah, .ref ar, .ref ap, .int (iZ ((((t).length : Nat) : Int))), .int (bZ (ng = true)), .int (iZ (((me : Nat) : Int))), .long (lN (mf)), .int (iZ (((mb : Nat) : Int))), .int (iZ (((mm : Nat) : Int))), .long (lN (ms)), .int (iZ (mt)), .long (lN (mq)), .int (iZ (mz))])), (ap, .inl (kP, 1600, .inl fp))] [(kP, .int)] hz9)) (Qc_Mo_number D h0 th au al av ao ah ar ap t ng me mf mb mm ms mt mq mz kP fp n (va_A [(h0, .inr (5, [.int (iZ (th)), .ref au, .ref al, .ref av, .ref ao, .ref ah, .ref ar, .ref ap, .int (iZ ((((t).length : Nat) : Int))), .int (bZ (ng = true)), .int (iZ (((me : Nat) : Int))), .long (lN (mf)), .int (iZ (((mb : Nat) : Int))), .int (iZ (((mm : Nat) : Int))), .long (lN (ms)), .int (iZ (mt)), .long (lN (mq)), .int (iZ (mz))])), (ap, .inl (kP, 1600, .inl fp))] hz9)) 0 0 (va_A [(h0, .inr (5, [.int (iZ (th)), .ref au, .ref al, .ref av, .ref ao, .ref ah, .ref ar, .ref ap, .int (iZ ((((t).length : Nat) : Int))), .int (bZ (ng = true)), .int (iZ (((me : Nat) : Int))), .long (lN (mf)), .int (iZ (((mb : Nat) : Int))), .int (iZ (((mm : Nat) : Int))), .long (lN (ms)), .int (iZ (mt)), .long (lN (mq)), .int (iZ (mz))])), (ap, .inl (kP, 1600, .inl fp))] hz9) := by
  refine met_go (Qf := Qc_Mo_number D h0 th au al av ao ah ar ap t ng me mf mb mm ms mt mq mz kP fp n) (ff := fun A => A) (by decide) ?_
  intro p e s m below meth c A C0 hin hsz9 hA hE hK hP hD
  obtain ⟨hx, hb, hml, hown, hts, hr, hlocks⟩ := id C0
  have hS : va_S A s.heap s.heap [] := va_S.rf
  have hl := lv_entry [.ref h0, .int (iZ (((n : Nat) : Int)))] (n := 3) (Nat.le_of_ble_eq_true rfl)
  rw [lg_entry_eq]
  generalize (lg_sl [.ref h0, .int (iZ (((n : Nat) : Int)))] ++ List.replicate (3 - (lg_sl [.ref h0, .int (iZ (((n : Nat) : Int)))]).length) Slot.unset).toArray = ls at hl ⊢
  have hl : lv_has ls 3 [(0, .ref h0), (1, .int (iZ (((n : Nat) : Int))))] := hl
  refine lv_iconst (v := iZ (1)) hx hb d_Mo_number_0 rfl ?_
  refine zv_top (y := iZ (((10 ^ 0 : Nat) : Int))) (rfl) ?_
  refine lv_istore_n (lv' := [(2, .int (iZ (((10 ^ 0 : Nat) : Int)))), (0, .ref h0), (1, .int (iZ (((n : Nat) : Int))))]) hx hb d_Mo_number_1 rfl hl (by decide) rfl (fun ls hl => ?_)
  exact lp_Mo_number_2 h0 th au al av ao ah ar ap t ng me mf mb mm ms mt mq mz kP fp n hp8 hn hl8 C0 hA hE (3 - 0 + 1) 0 _ _ _ (Nat.lt_succ_self _) (by omega) (by omega) (hK.sub [0] rfl) (hP.sub [0, 1] rfl) (hD.sub [0, 1] (by decide) rfl) hS (lv_sub hl [1, 2, 0] rfl)
