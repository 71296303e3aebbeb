theorem d_Mo_top_0 : decode b_Mo_top 0 = .ok (.sipush 1403, 3) := by decide +kernel
theorem d_Mo_top_3 : decode b_Mo_top 3 = .ok (.istore_n 1, 1) := by decide +kernel
theorem d_Mo_top_4 : decode b_Mo_top 4 = .ok (.aload_n 0, 1) := by decide +kernel
theorem d_Mo_top_5 : decode b_Mo_top 5 = .ok (.getfield 16, 3) := by decide +kernel
theorem d_Mo_top_8 : decode b_Mo_top 8 = .ok (.iload_n 1, 1) := by decide +kernel
theorem d_Mo_top_9 : decode b_Mo_top 9 = .ok (.iaload, 1) := by decide +kernel
theorem d_Mo_top_10 : decode b_Mo_top 10 = .ok (.ifCond .ne 9, 3) := by decide +kernel
theorem d_Mo_top_13 : decode b_Mo_top 13 = .ok (.iinc 1 (-1), 3) := by decide +kernel
theorem d_Mo_top_16 : decode b_Mo_top 16 = .ok (.goto (-12), 3) := by decide +kernel
theorem d_Mo_top_19 : decode b_Mo_top 19 = .ok (.iload_n 1, 1) := by decide +kernel
theorem d_Mo_top_20 : decode b_Mo_top 20 = .ok (.ireturn, 1) := by decide +kernel
theorem d_Mo_compare_0 : decode b_Mo_compare 0 = .ok (.sipush 1403, 3) := by decide +kernel
theorem d_Mo_compare_3 : decode b_Mo_compare 3 = .ok (.istore_n 2, 1) := by decide +kernel
theorem d_Mo_compare_4 : decode b_Mo_compare 4 = .ok (.iload_n 2, 1) := by decide +kernel
theorem d_Mo_compare_5 : decode b_Mo_compare 5 = .ok (.ifCond .lt 18, 3) := by decide +kernel
theorem d_Mo_compare_8 : decode b_Mo_compare 8 = .ok (.aload_n 0, 1) := by decide +kernel
theorem d_Mo_compare_9 : decode b_Mo_compare 9 = .ok (.iload_n 2, 1) := by decide +kernel
theorem d_Mo_compare_10 : decode b_Mo_compare 10 = .ok (.iaload, 1) := by decide +kernel
theorem d_Mo_compare_11 : decode b_Mo_compare 11 = .ok (.aload_n 1, 1) := by decide +kernel
theorem d_Mo_compare_12 : decode b_Mo_compare 12 = .ok (.iload_n 2, 1) := by decide +kernel
theorem d_Mo_compare_13 : decode b_Mo_compare 13 = .ok (.iaload, 1) := by decide +kernel
theorem d_Mo_compare_14 : decode b_Mo_compare 14 = .ok (.if_icmp .ne 9, 3) := by decide +kernel
theorem d_Mo_compare_17 : decode b_Mo_compare 17 = .ok (.iinc 2 (-1), 3) := by decide +kernel
theorem d_Mo_compare_20 : decode b_Mo_compare 20 = .ok (.goto (-16), 3) := by decide +kernel
theorem d_Mo_compare_23 : decode b_Mo_compare 23 = .ok (.iload_n 2, 1) := by decide +kernel
theorem d_Mo_compare_24 : decode b_Mo_compare 24 = .ok (.ifCond .ge 7, 3) := by decide +kernel
theorem d_Mo_compare_27 : decode b_Mo_compare 27 = .ok (.iconst 0, 1) := by decide +kernel
theorem d_Mo_compare_28 : decode b_Mo_compare 28 = .ok (.goto 17, 3) := by decide +kernel
theorem d_Mo_compare_31 : decode b_Mo_compare 31 = .ok (.aload_n 0, 1) := by decide +kernel
theorem d_Mo_compare_32 : decode b_Mo_compare 32 = .ok (.iload_n 2, 1) := by decide +kernel
theorem d_Mo_compare_33 : decode b_Mo_compare 33 = .ok (.iaload, 1) := by decide +kernel
theorem d_Mo_compare_34 : decode b_Mo_compare 34 = .ok (.aload_n 1, 1) := by decide +kernel
theorem d_Mo_compare_35 : decode b_Mo_compare 35 = .ok (.iload_n 2, 1) := by decide +kernel
theorem d_Mo_compare_36 : decode b_Mo_compare 36 = .ok (.iaload, 1) := by decide +kernel
theorem d_Mo_compare_37 : decode b_Mo_compare 37 = .ok (.if_icmp .ge 7, 3) := by decide +kernel
theorem d_Mo_compare_40 : decode b_Mo_compare 40 = .ok (.iconst (-1), 1) := by decide +kernel
theorem d_Mo_compare_41 : decode b_Mo_compare 41 = .ok (.goto 4, 3) := by decide +kernel
theorem d_Mo_compare_44 : decode b_Mo_compare 44 = .ok (.iconst 1, 1) := by decide +kernel
theorem d_Mo_compare_45 : decode b_Mo_compare 45 = .ok (.ireturn, 1) := by decide +kernel
abbrev Qc_Mo_top (D : va_G) (h0 : Nat) (th : Int) (au : Nat) (al : Nat) (av : Nat) (ao : Nat) (ah : Nat) (ar : Nat) (ap : Nat) (t : List Nat) (ng : Bool) (me : Nat) (mf : Nat) (mb : Nat) (mm : Nat) (ms : Nat) (mt : Int) (mq : Nat) (mz : Int) (kV : ClassId) (fv : Nat → Int32) (v : Nat) (A : Nat → Prop) : Array Value → State → Outcome → State → Prop := vp_Si (fun r : Int32 => r = iZ (((nfig v : Nat) : Int) - 1))
set_option maxHeartbeats 4000000 in
set_option maxRecDepth 100000 in
theorem lp_Mo_top_4 {p : Program} {l : Launch} {e : Env} {s : State} {m : MethodId} {args : Array Value} {below : List Frame} {meth : Method} {c : Code} {A : Nat → Prop} {D : va_G} {Z : Nat → Nat} (h0 : Nat) (th : Int) (au : Nat) (al : Nat) (av : Nat) (ao : Nat) (ah : Nat) (ar : Nat) (ap : Nat) (t : List Nat) (ng : Bool) (me : Nat) (mf : Nat) (mb : Nat) (mm : Nat) (ms : Nat) (mt : Int) (mq : Nat) (mz : Int) (kV : ClassId) (fv : Nat → Int32) (v : Nat) (hV : DigI fv v) (hv0 : 0 < v) (C0 : cxA p s m args meth c b_Mo_top 2 R_Mo (some .int)) (hA : ∀ q : Nat, s.heap.size ≤ q → A q) (hE : Ev Z A s s.heap) : ∀ (N : Nat) (j : Nat) (ls : Array Slot), j < N → (j < 1404) → (v / 10 ^ (j + 1) = 0) → va_K D classes [(kV, .int)] s → va_P D classes [(h0, .inr (5, [.int (iZ (th)), .ref au, .ref al, .ref av, .ref ao, .ref ah, .ref ar, .ref ap, .int (iZ ((((t).length : Nat) : Int))), .int (bZ (ng = true)), .int (iZ (((me : Nat) : Int))), .long (lN (mf)), .int (iZ (((mb : Nat) : Int))), .int (iZ (((mm : Nat) : Int))), .long (lN (ms)), .int (iZ (mt)), .long (lN (mq)), .int (iZ (mz))])), (av, .inl (kV, 1404, .inl fv))] s.heap → va_D A [(h0, .inr (5, [.int (iZ (th)), .ref au, .ref al, .ref av, .ref ao, .ref ah, .ref ar, .ref ap, .int (iZ ((((t).length : Nat) : Int))), .int (bZ (ng = true)), .int (iZ (((me : Nat) : Int))), .long (lN (mf)), .int (iZ (((mb : Nat) : Int))), .int (iZ (((mm : Nat) : Int))), .long (lN (ms)), .int (iZ (mt)), .long (lN (mq)), .int (iZ (mz))])), (av, .inl (kV, 1404, .inl fv))] → va_S A s.heap s.heap [] → lv_has ls 2 [(0, .ref h0), (1, .int (iZ (((j : Nat) : Int))))] → W p l e ({ frames := 0, cells := 0, slots := 0, locals := 0 } : Room) s m args below meth c s.heap [] 0 0 (MQ below (Qc_Mo_top D h0 th au al av ao ah ar ap t ng me mf mb mm ms mt mq mz kV fv v A) args s 0 0 (fun _ => False)) (F0 m 4 ls []) := by
  obtain ⟨hx, hb, hml, hown, hts, hr, hlocks⟩ := id C0
  intro N
  induction N with
  | zero => intro j ls hN; exact absurd hN (Nat.not_lt_zero _)
  | succ N ih =>
    intro j ls hN hj hz hK hP hD hS hl
    have hdl := dt_lt v j
    refine lv_aload_n hx hb d_Mo_top_4 rfl (lv_at hl 0 rfl) ?_
    refine va_get (D := D) (ci := 5) (v := .ref av) (C := R_Mo) (T := F_Mo) (N := 18) hx hb hts i_Mo hown hK hP 0 rfl rfl 3 (by decide) (hts _ kw_299_) (fun _ h9 => h9) rfl d_Mo_top_5 ?_
    refine lv_iload_n hx hb d_Mo_top_8 rfl (lv_at hl 1 rfl) ?_
    refine zv_iald hx hb hK hP 1 0 rfl rfl j (rfl) (by omega) (by decide) d_Mo_top_9 ?_
    refine zv_top (y := iZ (((dt v j : Nat) : Int))) (hV.1 j (by omega)) ?_
    refine zv_if_ne (tgt := 19) hx hb d_Mo_top_10 (by decide) (by omega) (fun c10 => ?_) (fun c10 => ?_)
    · have hn := top_fig hz (show ¬ dt v j = 0 by omega)
      refine lv_iload_n hx hb d_Mo_top_19 rfl (lv_at hl 1 rfl) ?_
      exact er_i hx hb hr hlocks d_Mo_top_20 (show iZ (((j : Nat) : Int)) = iZ (((nfig v : Nat) : Int) - 1) from congrArg iZ (by omega))
    · have hz2 : v / 10 ^ j = 0 := by rw [dt_step, hz]; omega
      have hj0 : 0 < j := by
        rcases Nat.eq_zero_or_pos j with q | q
        · rw [q, Nat.pow_zero, Nat.div_one] at hz2; omega
        · exact q
      refine lv_iinc (v := iZ (((j - 1 : Nat) : Int))) (lv' := [(1, .int (iZ (((j - 1 : Nat) : Int)))), (0, .ref h0)]) hx hb d_Mo_top_13 hl (k := 1) rfl ((iZ_add _ _).trans (congrArg iZ (by omega))) (by decide) rfl (fun ls hl => ?_)
      refine lv_goto (tgt := 4) hx hb d_Mo_top_16 (by decide) ?_
      exact ih (j - 1) _ (by omega) (by omega) (by rw [show j - 1 + 1 = j by omega]; exact hz2) (hK.sub [0] rfl) (hP.sub [0, 1] rfl) (hD.sub [0, 1] (by decide) rfl) hS (lv_sub hl [1, 0] rfl)
set_option maxHeartbeats 4000000 in
set_option maxRecDepth 100000 in
theorem c_Mo_top (l : Launch) (D : va_G) (Z : Nat → Nat) (hz9 : Nat) (h0 : Nat) (th : Int) (au : Nat) (al : Nat) (av : Nat) (ao : Nat) (ah : Nat) (ar : Nat) (ap : Nat) (t : List Nat) (ng : Bool) (me : Nat) (mf : Nat) (mb : Nat) (mm : Nat) (ms : Nat) (mt : Int) (mq : Nat) (mz : Int) (kV : ClassId) (fv : Nat → Int32) (v : Nat) (hV : DigI fv v) (hv0 : 0 < v) : Met l y_Mo_top (.code y_Mo_top b_Mo_top 2 (some .int) :: gT) ({ frames := 0, cells := 0, slots := 0, locals := 0 } : Room) (va_Pc [.ref h0] (cpre D Z [(h0, .inr (5, [.int (iZ (th)), .ref au, .ref al, .ref av, .ref ao, .ref ah, .ref ar, .ref ap, .int (iZ ((((t).length : Nat) : Int))), .int (bZ (ng = true)), .int (iZ (((me : Nat) : Int))), .long (lN (mf)), .int (iZ (((mb : Nat) : Int))), .int (iZ (((mm : Nat) : Int))), .long (lN (ms)), .int (iZ (mt)), .long (lN (mq)), .int (iZ (mz))])), (av, .inl (kV, 1404, .inl fv))] [(kV, .int)] hz9)) (Qc_Mo_top D h0 th au al av ao ah ar ap t ng me mf mb mm ms mt mq mz kV fv v (va_A [(h0, .inr (5, [.int (iZ (th)), .ref au, .ref al, .ref av, .ref ao, .ref ah, .ref ar, .ref ap, .int (iZ ((((t).length : Nat) : Int))), .int (bZ (ng = true)), .int (iZ (((me : Nat) : Int))), .long (lN (mf)), .int (iZ (((mb : Nat) : Int))), .int (iZ (((mm : Nat) : Int))), .long (lN (ms)), .int (iZ (mt)), .long (lN (mq)), .int (iZ (mz))])), (av, .inl (kV, 1404, .inl fv))] hz9)) 0 0 (fun _ => False) := by
  refine met_go (Qf := Qc_Mo_top D h0 th au al av ao ah ar ap t ng me mf mb mm ms mt mq mz kV fv v) (ff := fun _ _ => False) (by decide) ?_
  intro p e s m below meth c A C0 hin hsz9 hA hE hK hP hD
  obtain ⟨hx, hb, hml, hown, hts, hr, hlocks⟩ := id C0
  have hS : va_S A s.heap s.heap [] := va_S.rf
  have hl := lv_entry [.ref h0] (n := 2) (Nat.le_of_ble_eq_true rfl)
  rw [lg_entry_eq]
  generalize (lg_sl [.ref h0] ++ List.replicate (2 - (lg_sl [.ref h0]).length) Slot.unset).toArray = ls at hl ⊢
  have hl : lv_has ls 2 [(0, .ref h0)] := hl
  refine lv_sipush (v := iZ (1403)) hx hb d_Mo_top_0 (by decide) ?_
  refine zv_top (y := iZ (((1403 : Nat) : Int))) (rfl) ?_
  refine lv_istore_n (lv' := [(1, .int (iZ (((1403 : Nat) : Int)))), (0, .ref h0)]) hx hb d_Mo_top_3 rfl hl (by decide) rfl (fun ls hl => ?_)
  exact lp_Mo_top_4 h0 th au al av ao ah ar ap t ng me mf mb mm ms mt mq mz kV fv v hV hv0 C0 hA hE (1403 + 1) 1403 _ (Nat.lt_succ_self _) (by decide) (Nat.div_eq_of_lt hV.2) (hK.sub [0] rfl) (hP.sub [0, 1] rfl) (hD.sub [0, 1] (by decide) rfl) hS (lv_sub hl [1, 0] rfl)
abbrev Qc_Mo_compare (D : va_G) (qx : Nat) (kX : ClassId) (fx : Nat → Int32) (qy : Nat) (kY : ClassId) (fy : Nat → Int32) (x : Nat) (y : Nat) (A : Nat → Prop) : Array Value → State → Outcome → State → Prop := vp_Si (fun r : Int32 => r = iZ (cmpN x y))
set_option maxHeartbeats 4000000 in
set_option maxRecDepth 100000 in
theorem lp_Mo_compare_4 {p : Program} {l : Launch} {e : Env} {s : State} {m : MethodId} {args : Array Value} {below : List Frame} {meth : Method} {c : Code} {A : Nat → Prop} {D : va_G} {Z : Nat → Nat} (qx : Nat) (kX : ClassId) (fx : Nat → Int32) (qy : Nat) (kY : ClassId) (fy : Nat → Int32) (x : Nat) (y : Nat) (hX : DigI fx x) (hY : DigI fy y) (C0 : cxA p s m args meth c b_Mo_compare 3 R_Mo (some .int)) (hA : ∀ q : Nat, s.heap.size ≤ q → A q) (hE : Ev Z A s s.heap) : ∀ (N : Nat) (j : Nat) (ls : Array Slot), j < N → (j ≤ 1404) → (x / 10 ^ j = y / 10 ^ j) → va_K D classes [(kX, .int), (kY, .int)] s → va_P D classes [(qx, .inl (kX, 1404, .inl fx)), (qy, .inl (kY, 1404, .inl fy))] s.heap → va_D A [(qx, .inl (kX, 1404, .inl fx)), (qy, .inl (kY, 1404, .inl fy))] → va_S A s.heap s.heap [] → lv_has ls 3 [(0, .ref qx), (1, .ref qy), (2, .int (iZ (((j : Nat) : Int) - 1)))] → W p l e ({ frames := 0, cells := 0, slots := 0, locals := 0 } : Room) s m args below meth c s.heap [] 0 0 (MQ below (Qc_Mo_compare D qx kX fx qy kY fy x y A) args s 0 0 (fun _ => False)) (F0 m 4 ls []) := by
  obtain ⟨hx, hb, hml, hown, hts, hr, hlocks⟩ := id C0
  intro N
  induction N with
  | zero => intro j ls hN; exact absurd hN (Nat.not_lt_zero _)
  | succ N ih =>
    intro j ls hN hj hq hK hP hD hS hl
    have hd1 := dt_lt x (j - 1)
    have hd2 := dt_lt y (j - 1)
    refine lv_iload_n hx hb d_Mo_compare_4 rfl (lv_at hl 2 rfl) ?_
    refine zv_if_lt (tgt := 23) hx hb d_Mo_compare_5 (by decide) (by omega) (fun c5 => ?_) (fun c5 => ?_)
    · have j0 : j = 0 := by omega
      have exy : x = y := by rw [j0, Nat.pow_zero, Nat.div_one, Nat.div_one] at hq; exact hq
      refine lv_iload_n hx hb d_Mo_compare_23 rfl (lv_at hl 2 rfl) ?_
      refine zv_if_ge (tgt := 31) hx hb d_Mo_compare_24 (by decide) (by omega) (fun c24 => ?_) (fun c24 => ?_)
      · have hq1 : x / 10 ^ (j - 1 + 1) = y / 10 ^ (j - 1 + 1) := by rw [show j - 1 + 1 = j by omega]; exact hq
        refine lv_aload_n hx hb d_Mo_compare_31 rfl (lv_at hl 0 rfl) ?_
        refine lv_iload_n hx hb d_Mo_compare_32 rfl (lv_at hl 2 rfl) ?_
        refine zv_iald hx hb hK hP 0 0 rfl rfl (j - 1) (by omega) (by omega) (by decide) d_Mo_compare_33 ?_
        refine zv_top (y := iZ (((dt x (j - 1) : Nat) : Int))) (hX.1 _ (by omega)) ?_
        refine lv_aload_n hx hb d_Mo_compare_34 rfl (lv_at hl 1 rfl) ?_
        refine lv_iload_n hx hb d_Mo_compare_35 rfl (lv_at hl 2 rfl) ?_
        refine zv_iald hx hb hK hP 1 1 rfl rfl (j - 1) (by omega) (by omega) (by decide) d_Mo_compare_36 ?_
        refine zv_top (y := iZ (((dt y (j - 1) : Nat) : Int))) (hY.1 _ (by omega)) ?_
        refine zv_icmp_ge (tgt := 44) hx hb d_Mo_compare_37 (by decide) (by omega) (by omega) (fun c37 => ?_) (fun c37 => ?_)
        · refine lv_iconst (v := iZ (1)) hx hb d_Mo_compare_44 rfl ?_
          exact er_i hx hb hr hlocks d_Mo_compare_45 (show iZ (1) = iZ (cmpN x y) from congrArg iZ (by unfold cmpN; have := dt_lt_step hq1.symm (show dt y (j - 1) < dt x (j - 1) by omega); rw [if_neg (by omega), if_neg (by omega)]))
        · refine lv_iconst (v := iZ (-1)) hx hb d_Mo_compare_40 rfl ?_
          refine lv_goto (tgt := 45) hx hb d_Mo_compare_41 (by decide) ?_
          exact er_i hx hb hr hlocks d_Mo_compare_45 (show iZ (-1) = iZ (cmpN x y) from congrArg iZ (by unfold cmpN; rw [if_pos (dt_lt_step hq1 (by omega))]))
      · refine lv_iconst (v := iZ (0)) hx hb d_Mo_compare_27 rfl ?_
        refine lv_goto (tgt := 45) hx hb d_Mo_compare_28 (by decide) ?_
        exact er_i hx hb hr hlocks d_Mo_compare_45 (show iZ (0) = iZ (cmpN x y) from congrArg iZ (by unfold cmpN; rw [if_neg (by omega), if_pos (by omega)]))
    · have hq1 : x / 10 ^ (j - 1 + 1) = y / 10 ^ (j - 1 + 1) := by rw [show j - 1 + 1 = j by omega]; exact hq
      refine lv_aload_n hx hb d_Mo_compare_8 rfl (lv_at hl 0 rfl) ?_
      refine lv_iload_n hx hb d_Mo_compare_9 rfl (lv_at hl 2 rfl) ?_
      refine zv_iald hx hb hK hP 0 0 rfl rfl (j - 1) (by omega) (by omega) (by decide) d_Mo_compare_10 ?_
      refine zv_top (y := iZ (((dt x (j - 1) : Nat) : Int))) (hX.1 _ (by omega)) ?_
      refine lv_aload_n hx hb d_Mo_compare_11 rfl (lv_at hl 1 rfl) ?_
      refine lv_iload_n hx hb d_Mo_compare_12 rfl (lv_at hl 2 rfl) ?_
      refine zv_iald hx hb hK hP 1 1 rfl rfl (j - 1) (by omega) (by omega) (by decide) d_Mo_compare_13 ?_
      refine zv_top (y := iZ (((dt y (j - 1) : Nat) : Int))) (hY.1 _ (by omega)) ?_
      refine zv_icmp_ne (tgt := 23) hx hb d_Mo_compare_14 (by decide) (by omega) (by omega) (fun c14 => ?_) (fun c14 => ?_)
      · refine lv_iload_n hx hb d_Mo_compare_23 rfl (lv_at hl 2 rfl) ?_
        refine zv_if_ge (tgt := 31) hx hb d_Mo_compare_24 (by decide) (by omega) (fun c24 => ?_) (fun c24 => ?_)
        · have hq1 : x / 10 ^ (j - 1 + 1) = y / 10 ^ (j - 1 + 1) := by rw [show j - 1 + 1 = j by omega]; exact hq
          refine lv_aload_n hx hb d_Mo_compare_31 rfl (lv_at hl 0 rfl) ?_
          refine lv_iload_n hx hb d_Mo_compare_32 rfl (lv_at hl 2 rfl) ?_
          refine zv_iald hx hb hK hP 0 0 rfl rfl (j - 1) (by omega) (by omega) (by decide) d_Mo_compare_33 ?_
          refine zv_top (y := iZ (((dt x (j - 1) : Nat) : Int))) (hX.1 _ (by omega)) ?_
          refine lv_aload_n hx hb d_Mo_compare_34 rfl (lv_at hl 1 rfl) ?_
          refine lv_iload_n hx hb d_Mo_compare_35 rfl (lv_at hl 2 rfl) ?_
          refine zv_iald hx hb hK hP 1 1 rfl rfl (j - 1) (by omega) (by omega) (by decide) d_Mo_compare_36 ?_
          refine zv_top (y := iZ (((dt y (j - 1) : Nat) : Int))) (hY.1 _ (by omega)) ?_
          refine zv_icmp_ge (tgt := 44) hx hb d_Mo_compare_37 (by decide) (by omega) (by omega) (fun c37 => ?_) (fun c37 => ?_)
          · refine lv_iconst (v := iZ (1)) hx hb d_Mo_compare_44 rfl ?_
            exact er_i hx hb hr hlocks d_Mo_compare_45 (show iZ (1) = iZ (cmpN x y) from congrArg iZ (by unfold cmpN; have := dt_lt_step hq1.symm (show dt y (j - 1) < dt x (j - 1) by omega); rw [if_neg (by omega), if_neg (by omega)]))
          · refine lv_iconst (v := iZ (-1)) hx hb d_Mo_compare_40 rfl ?_
            refine lv_goto (tgt := 45) hx hb d_Mo_compare_41 (by decide) ?_
            exact er_i hx hb hr hlocks d_Mo_compare_45 (show iZ (-1) = iZ (cmpN x y) from congrArg iZ (by unfold cmpN; rw [if_pos (dt_lt_step hq1 (by omega))]))
        · refine lv_iconst (v := iZ (0)) hx hb d_Mo_compare_27 rfl ?_
          refine lv_goto (tgt := 45) hx hb d_Mo_compare_28 (by decide) ?_
          exact er_i hx hb hr hlocks d_Mo_compare_45 (show iZ (0) = iZ (cmpN x y) from congrArg iZ (by unfold cmpN; rw [if_neg (by omega), if_pos (by omega)]))
      · refine lv_iinc (v := iZ (((j - 1 : Nat) : Int) - 1)) (lv' := [(2, .int (iZ (((j - 1 : Nat) : Int) - 1))), (0, .ref qx), (1, .ref qy)]) hx hb d_Mo_compare_17 hl (k := 2) rfl ((iZ_add _ _).trans (congrArg iZ (by omega))) (by decide) rfl (fun ls hl => ?_)
        refine lv_goto (tgt := 4) hx hb d_Mo_compare_20 (by decide) ?_
        exact ih (j - 1) _ (by omega) (by omega) (dt_eq_step hq1 (by omega)) (hK.sub [0, 1] rfl) (hP.sub [0, 1] rfl) (hD.sub [0, 1] (by decide) rfl) hS (lv_sub hl [1, 2, 0] rfl)
set_option maxHeartbeats 4000000 in
set_option maxRecDepth 100000 in
theorem c_Mo_compare (l : Launch) (D : va_G) (Z : Nat → Nat) (hz9 : Nat) (qx : Nat) (kX : ClassId) (fx : Nat → Int32) (qy : Nat) (kY : ClassId) (fy : Nat → Int32) (x : Nat) (y : Nat) (hX : DigI fx x) (hY : DigI fy y) : Met l y_Mo_compare (.code y_Mo_compare b_Mo_compare 3 (some .int) :: gT) ({ frames := 0, cells := 0, slots := 0, locals := 0 } : Room) (va_Pc [.ref qx, .ref qy] (cpre D Z [(qx, .inl (kX, 1404, .inl fx)), (qy, .inl (kY, 1404, .inl fy))] [(kX, .int), (kY, .int)] hz9)) (Qc_Mo_compare D qx kX fx qy kY fy x y (va_A [(qx, .inl (kX, 1404, .inl fx)), (qy, .inl (kY, 1404, .inl fy))] hz9)) 0 0 (fun _ => False) := by
  refine met_go (Qf := Qc_Mo_compare D qx kX fx qy kY fy x y) (ff := fun _ _ => False) (by decide) ?_
  intro p e s m below meth c A C0 hin hsz9 hA hE hK hP hD
  obtain ⟨hx, hb, hml, hown, hts, hr, hlocks⟩ := id C0
  have hS : va_S A s.heap s.heap [] := va_S.rf
  have hl := lv_entry [.ref qx, .ref qy] (n := 3) (Nat.le_of_ble_eq_true rfl)
  rw [lg_entry_eq]
  generalize (lg_sl [.ref qx, .ref qy] ++ List.replicate (3 - (lg_sl [.ref qx, .ref qy]).length) Slot.unset).toArray = ls at hl ⊢
  have hl : lv_has ls 3 [(0, .ref qx), (1, .ref qy)] := hl
  refine lv_sipush (v := iZ (1403)) hx hb d_Mo_compare_0 (by decide) ?_
  refine zv_top (y := iZ (((1404 : Nat) : Int) - 1)) (rfl) ?_
  refine lv_istore_n (lv' := [(2, .int (iZ (((1404 : Nat) : Int) - 1))), (0, .ref qx), (1, .ref qy)]) hx hb d_Mo_compare_3 rfl hl (by decide) rfl (fun ls hl => ?_)
  exact lp_Mo_compare_4 qx kX fx qy kY fy x y hX hY C0 hA hE (1404 + 1) 1404 _ (Nat.lt_succ_self _) (by decide) (by rw [Nat.div_eq_of_lt hX.2, Nat.div_eq_of_lt hY.2]) (hK.sub [0, 1] rfl) (hP.sub [0, 1] rfl) (hD.sub [0, 1] (by decide) rfl) hS (lv_sub hl [1, 2, 0] rfl)
