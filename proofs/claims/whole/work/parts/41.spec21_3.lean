theorem d_Mo_cut_0 : decode b_Mo_cut 0 = .ok (.iconst 0, 1) := by decide +kernel
theorem d_Mo_cut_1 : decode b_Mo_cut 1 = .ok (.istore_n 3, 1) := by decide +kernel
theorem d_Mo_cut_2 : decode b_Mo_cut 2 = .ok (.iload_n 3, 1) := by decide +kernel
theorem d_Mo_cut_3 : decode b_Mo_cut 3 = .ok (.sipush 1404, 3) := by decide +kernel
theorem d_Mo_cut_6 : decode b_Mo_cut 6 = .ok (.if_icmp .ge 30, 3) := by decide +kernel
theorem d_Mo_cut_9 : decode b_Mo_cut 9 = .ok (.aload_n 0, 1) := by decide +kernel
theorem d_Mo_cut_10 : decode b_Mo_cut 10 = .ok (.getfield 25, 3) := by decide +kernel
theorem d_Mo_cut_13 : decode b_Mo_cut 13 = .ok (.iload_n 3, 1) := by decide +kernel
theorem d_Mo_cut_14 : decode b_Mo_cut 14 = .ok (.iload_n 3, 1) := by decide +kernel
theorem d_Mo_cut_15 : decode b_Mo_cut 15 = .ok (.iload_n 1, 1) := by decide +kernel
theorem d_Mo_cut_16 : decode b_Mo_cut 16 = .ok (.if_icmp .ge 7, 3) := by decide +kernel
theorem d_Mo_cut_19 : decode b_Mo_cut 19 = .ok (.iconst 0, 1) := by decide +kernel
theorem d_Mo_cut_20 : decode b_Mo_cut 20 = .ok (.goto 9, 3) := by decide +kernel
theorem d_Mo_cut_23 : decode b_Mo_cut 23 = .ok (.aload_n 0, 1) := by decide +kernel
theorem d_Mo_cut_24 : decode b_Mo_cut 24 = .ok (.getfield 16, 3) := by decide +kernel
theorem d_Mo_cut_27 : decode b_Mo_cut 27 = .ok (.iload_n 3, 1) := by decide +kernel
theorem d_Mo_cut_28 : decode b_Mo_cut 28 = .ok (.iaload, 1) := by decide +kernel
theorem d_Mo_cut_29 : decode b_Mo_cut 29 = .ok (.iastore, 1) := by decide +kernel
theorem d_Mo_cut_30 : decode b_Mo_cut 30 = .ok (.iinc 3 1, 3) := by decide +kernel
theorem d_Mo_cut_33 : decode b_Mo_cut 33 = .ok (.goto (-31), 3) := by decide +kernel
theorem d_Mo_cut_36 : decode b_Mo_cut 36 = .ok (.iload_n 1, 1) := by decide +kernel
theorem d_Mo_cut_37 : decode b_Mo_cut 37 = .ok (.istore_n 3, 1) := by decide +kernel
theorem d_Mo_cut_38 : decode b_Mo_cut 38 = .ok (.iload_n 2, 1) := by decide +kernel
theorem d_Mo_cut_39 : decode b_Mo_cut 39 = .ok (.istore 4, 2) := by decide +kernel
theorem d_Mo_cut_41 : decode b_Mo_cut 41 = .ok (.iload 4, 2) := by decide +kernel
theorem d_Mo_cut_43 : decode b_Mo_cut 43 = .ok (.ifCond .eq 54, 3) := by decide +kernel
theorem d_Mo_cut_46 : decode b_Mo_cut 46 = .ok (.aload_n 0, 1) := by decide +kernel
theorem d_Mo_cut_47 : decode b_Mo_cut 47 = .ok (.getfield 25, 3) := by decide +kernel
theorem d_Mo_cut_50 : decode b_Mo_cut 50 = .ok (.iload_n 3, 1) := by decide +kernel
theorem d_Mo_cut_51 : decode b_Mo_cut 51 = .ok (.aload_n 0, 1) := by decide +kernel
theorem d_Mo_cut_52 : decode b_Mo_cut 52 = .ok (.getfield 25, 3) := by decide +kernel
theorem d_Mo_cut_55 : decode b_Mo_cut 55 = .ok (.iload_n 3, 1) := by decide +kernel
theorem d_Mo_cut_56 : decode b_Mo_cut 56 = .ok (.iaload, 1) := by decide +kernel
theorem d_Mo_cut_57 : decode b_Mo_cut 57 = .ok (.bipush 9, 2) := by decide +kernel
theorem d_Mo_cut_59 : decode b_Mo_cut 59 = .ok (.if_icmp .ne 7, 3) := by decide +kernel
theorem d_Mo_cut_62 : decode b_Mo_cut 62 = .ok (.iconst 0, 1) := by decide +kernel
theorem d_Mo_cut_63 : decode b_Mo_cut 63 = .ok (.goto 11, 3) := by decide +kernel
theorem d_Mo_cut_66 : decode b_Mo_cut 66 = .ok (.aload_n 0, 1) := by decide +kernel
theorem d_Mo_cut_67 : decode b_Mo_cut 67 = .ok (.getfield 25, 3) := by decide +kernel
theorem d_Mo_cut_70 : decode b_Mo_cut 70 = .ok (.iload_n 3, 1) := by decide +kernel
theorem d_Mo_cut_71 : decode b_Mo_cut 71 = .ok (.iaload, 1) := by decide +kernel
theorem d_Mo_cut_72 : decode b_Mo_cut 72 = .ok (.iconst 1, 1) := by decide +kernel
theorem d_Mo_cut_73 : decode b_Mo_cut 73 = .ok (.iadd, 1) := by decide +kernel
theorem d_Mo_cut_74 : decode b_Mo_cut 74 = .ok (.iastore, 1) := by decide +kernel
theorem d_Mo_cut_75 : decode b_Mo_cut 75 = .ok (.aload_n 0, 1) := by decide +kernel
theorem d_Mo_cut_76 : decode b_Mo_cut 76 = .ok (.getfield 25, 3) := by decide +kernel
theorem d_Mo_cut_79 : decode b_Mo_cut 79 = .ok (.iload_n 3, 1) := by decide +kernel
theorem d_Mo_cut_80 : decode b_Mo_cut 80 = .ok (.iaload, 1) := by decide +kernel
theorem d_Mo_cut_81 : decode b_Mo_cut 81 = .ok (.ifCond .ne 7, 3) := by decide +kernel
theorem d_Mo_cut_84 : decode b_Mo_cut 84 = .ok (.iconst 1, 1) := by decide +kernel
theorem d_Mo_cut_85 : decode b_Mo_cut 85 = .ok (.goto 4, 3) := by decide +kernel
theorem d_Mo_cut_88 : decode b_Mo_cut 88 = .ok (.iconst 0, 1) := by decide +kernel
theorem d_Mo_cut_89 : decode b_Mo_cut 89 = .ok (.istore 4, 2) := by decide +kernel
theorem d_Mo_cut_91 : decode b_Mo_cut 91 = .ok (.iinc 3 1, 3) := by decide +kernel
theorem d_Mo_cut_94 : decode b_Mo_cut 94 = .ok (.goto (-53), 3) := by decide +kernel
theorem d_Mo_cut_97 : decode b_Mo_cut 97 = .ok (.return_, 1) := by decide +kernel
abbrev Qc_Mo_cut (D : va_G) (h0 : Nat) (th : Int) (au : Nat) (al : Nat) (av : Nat) (ao : Nat) (ah : Nat) (ar : Nat) (ap : Nat) (t : List Nat) (ng : Bool) (me : Nat) (mf : Nat) (mb : Nat) (mm : Nat) (ms : Nat) (mt : Int) (mq : Nat) (mz : Int) (kV : ClassId) (fv : Nat → Int32) (kR : ClassId) (fr : Nat → Int32) (v : Nat) (k : Nat) (mr : Bool) (A : Nat → Prop) : Array Value → State → Outcome → State → Prop := va_Qv (fun u : Nat → Int32 => DigI u (ctN v k mr)) (fun (u : Nat → Int32) t9 => cpost D A [(h0, .inr (5, [.int (iZ (th)), .ref au, .ref al, .ref av, .ref ao, .ref ah, .ref ar, .ref ap, .int (iZ ((((t).length : Nat) : Int))), .int (bZ (ng = true)), .int (iZ (((me : Nat) : Int))), .long (lN (mf)), .int (iZ (((mb : Nat) : Int))), .int (iZ (((mm : Nat) : Int))), .long (lN (ms)), .int (iZ (mt)), .long (lN (mq)), .int (iZ (mz))])), (av, .inl (kV, 1404, .inl fv)), (ar, .inl (kR, 1404, .inl u))] [(kV, .int), (kR, .int)] t9) A
set_option maxHeartbeats 4000000 in
set_option maxRecDepth 100000 in
theorem lp_Mo_cut_41 {p : Program} {l : Launch} {e : Env} {s : State} {m : MethodId} {args : Array Value} {below : List Frame} {meth : Method} {c : Code} {A : Nat → Prop} {D : va_G} {Z : Nat → Nat} (h0 : Nat) (th : Int) (au : Nat) (al : Nat) (av : Nat) (ao : Nat) (ah : Nat) (ar : Nat) (ap : Nat) (t : List Nat) (ng : Bool) (me : Nat) (mf : Nat) (mb : Nat) (mm : Nat) (ms : Nat) (mt : Int) (mq : Nat) (mz : Int) (kV : ClassId) (fv : Nat → Int32) (kR : ClassId) (fr : Nat → Int32) (v : Nat) (k : Nat) (mr : Bool) (hV : DigI fv v) (hk : k < 1404) (hlt : v + 10 ^ k < 10 ^ 1404) (C0 : cxA p s m args meth c b_Mo_cut 5 R_Mo none) (hA : ∀ q : Nat, s.heap.size ≤ q → A q) (hE : Ev Z A s s.heap) : ∀ (N : Nat) (j : Nat) (yy : Nat) (cy : Bool) (fa : Nat → Int32) (H : Heap) (locs : List Loc) (ls : Array Slot), (if cy = true then 1405 - j else 0) < N → (DigI fa yy) → (cy = false → yy = ctN v k mr) → (cy = true → yy + 10 ^ j = ctN v k mr ∧ 10 ^ j ∣ yy) → va_K D classes [(kV, .int), (kR, .int)] s → va_P D classes [(h0, .inr (5, [.int (iZ (th)), .ref au, .ref al, .ref av, .ref ao, .ref ah, .ref ar, .ref ap, .int (iZ ((((t).length : Nat) : Int))), .int (bZ (ng = true)), .int (iZ (((me : Nat) : Int))), .long (lN (mf)), .int (iZ (((mb : Nat) : Int))), .int (iZ (((mm : Nat) : Int))), .long (lN (ms)), .int (iZ (mt)), .long (lN (mq)), .int (iZ (mz))])), (av, .inl (kV, 1404, .inl fv)), (ar, .inl (kR, 1404, .inl fa))] H → va_D A [(h0, .inr (5, [.int (iZ (th)), .ref au, .ref al, .ref av, .ref ao, .ref ah, .ref ar, .ref ap, .int (iZ ((((t).length : Nat) : Int))), .int (bZ (ng = true)), .int (iZ (((me : Nat) : Int))), .long (lN (mf)), .int (iZ (((mb : Nat) : Int))), .int (iZ (((mm : Nat) : Int))), .long (lN (ms)), .int (iZ (mt)), .long (lN (mq)), .int (iZ (mz))])), (av, .inl (kV, 1404, .inl fv)), (ar, .inl (kR, 1404, .inl fa))] → va_S A s.heap H locs → lv_has ls 5 [(0, .ref h0), (3, .int (iZ (((j : Nat) : Int)))), (4, .int (bZ (cy = true)))] → W p l e ({ frames := 0, cells := 0, slots := 0, locals := 0 } : Room) s m args below meth c H locs 0 0 (MQ below (Qc_Mo_cut D h0 th au al av ao ah ar ap t ng me mf mb mm ms mt mq mz kV fv kR fr v k mr A) args s 0 0 A) (F0 m 41 ls []) := by
  obtain ⟨hx, hb, hml, hown, hts, hr, hlocks⟩ := id C0
  intro N
  induction N with
  | zero => intro j yy cy fa H locs ls hN; exact absurd hN (Nat.not_lt_zero _)
  | succ N ih =>
    intro j yy cy fa H locs ls hN hf hyf hyt hK hP hD hS hl
    refine lv_iload hx hb d_Mo_cut_41 (lv_at hl 2 rfl) ?_
    refine bv_if_eq (tgt := 97) hx hb d_Mo_cut_43 (by decide) (fun c43 => ?_) (fun c43 => ?_)
    · have cf : cy = false := by cases cy; rfl; exact absurd rfl c43
      exact ew_v fa hx hb hr hlocks d_Mo_cut_97 (show DigI fa (ctN v k mr) from by rw [← hyf cf]; exact hf) (hP.sub (ws' := [(h0, .inr (5, [.int (iZ (th)), .ref au, .ref al, .ref av, .ref ao, .ref ah, .ref ar, .ref ap, .int (iZ ((((t).length : Nat) : Int))), .int (bZ (ng = true)), .int (iZ (((me : Nat) : Int))), .long (lN (mf)), .int (iZ (((mb : Nat) : Int))), .int (iZ (((mm : Nat) : Int))), .long (lN (ms)), .int (iZ (mt)), .long (lN (mq)), .int (iZ (mz))])), (av, .inl (kV, 1404, .inl fv)), (ar, .inl (kR, 1404, .inl fa))]) [0, 1, 2] rfl) (hD.sub (ws' := [(h0, .inr (5, [.int (iZ (th)), .ref au, .ref al, .ref av, .ref ao, .ref ah, .ref ar, .ref ap, .int (iZ ((((t).length : Nat) : Int))), .int (bZ (ng = true)), .int (iZ (((me : Nat) : Int))), .long (lN (mf)), .int (iZ (((mb : Nat) : Int))), .int (iZ (((mm : Nat) : Int))), .long (lN (ms)), .int (iZ (mt)), .long (lN (mq)), .int (iZ (mz))])), (av, .inl (kV, 1404, .inl fv)), (ar, .inl (kR, 1404, .inl fa))]) [0, 1, 2] (by decide) rfl) (hK.sub (tys' := [(kV, .int), (kR, .int)]) [0, 1] rfl) hS (Nat.le_of_ble_eq_true rfl) (Nat.le_of_ble_eq_true rfl)
    · obtain ⟨hw1, hw2⟩ := hyt c43
      have hWl : ctN v k mr < 10 ^ 1404 := by unfold ctN; split <;> omega
      have hj : j < 1404 := cut_j (by omega : yy + 10 ^ j < 10 ^ 1404)
      have hd := dt_lt yy j
      refine lv_aload_n hx hb d_Mo_cut_46 rfl (lv_at hl 0 rfl) ?_
      refine va_get (D := D) (ci := 5) (v := .ref ar) (C := R_Mo) (T := F_Mo) (N := 18) hx hb hts i_Mo hown hK hP 0 rfl rfl 6 (by decide) (hts _ kw_302_) (fun _ h9 => h9) rfl d_Mo_cut_47 ?_
      refine lv_iload_n hx hb d_Mo_cut_50 rfl (lv_at hl 1 rfl) ?_
      refine lv_aload_n hx hb d_Mo_cut_51 rfl (lv_at hl 0 rfl) ?_
      refine va_get (D := D) (ci := 5) (v := .ref ar) (C := R_Mo) (T := F_Mo) (N := 18) hx hb hts i_Mo hown hK hP 0 rfl rfl 6 (by decide) (hts _ kw_302_) (fun _ h9 => h9) rfl d_Mo_cut_52 ?_
      refine lv_iload_n hx hb d_Mo_cut_55 rfl (lv_at hl 1 rfl) ?_
      refine zv_iald hx hb hK hP 2 1 rfl rfl j (rfl) (by omega) (by decide) d_Mo_cut_56 ?_
      refine zv_top (y := iZ (((dt yy j : Nat) : Int))) (hf.1 j hj) ?_
      refine lv_bipush (v := iZ (9)) hx hb d_Mo_cut_57 (by decide) ?_
      refine zv_icmp_ne (tgt := 66) hx hb d_Mo_cut_59 (by decide) (by omega) (by omega) (fun c59 => ?_) (fun c59 => ?_)
      · refine lv_aload_n hx hb d_Mo_cut_66 rfl (lv_at hl 0 rfl) ?_
        refine va_get (D := D) (ci := 5) (v := .ref ar) (C := R_Mo) (T := F_Mo) (N := 18) hx hb hts i_Mo hown hK hP 0 rfl rfl 6 (by decide) (hts _ kw_302_) (fun _ h9 => h9) rfl d_Mo_cut_67 ?_
        refine lv_iload_n hx hb d_Mo_cut_70 rfl (lv_at hl 1 rfl) ?_
        refine zv_iald hx hb hK hP 2 1 rfl rfl j (rfl) (by omega) (by decide) d_Mo_cut_71 ?_
        refine zv_top (y := iZ (((dt yy j : Nat) : Int))) (hf.1 j hj) ?_
        refine lv_iconst (v := iZ (1)) hx hb d_Mo_cut_72 rfl ?_
        refine zv_iadd hx hb d_Mo_cut_73 ?_
        refine zv_top (y := iZ (((dt yy j + 1 : Nat) : Int))) (rfl) ?_
        refine zv_iast hx hb hK hP hD hS 2 1 rfl rfl j (rfl) (by omega) (by decide) d_Mo_cut_74 (fun H locs hP hD hS => ?_)
        have hP : va_P D classes [(h0, .inr (5, [.int (iZ (th)), .ref au, .ref al, .ref av, .ref ao, .ref ah, .ref ar, .ref ap, .int (iZ ((((t).length : Nat) : Int))), .int (bZ (ng = true)), .int (iZ (((me : Nat) : Int))), .long (lN (mf)), .int (iZ (((mb : Nat) : Int))), .int (iZ (((mm : Nat) : Int))), .long (lN (ms)), .int (iZ (mt)), .long (lN (mq)), .int (iZ (mz))])), (av, .inl (kV, 1404, .inl fv)), (ar, .inl (kR, 1404, .inl (upd fa j (iZ (((dt yy j + 1 : Nat) : Int))))))] H := hP
        have hD : va_D A [(h0, .inr (5, [.int (iZ (th)), .ref au, .ref al, .ref av, .ref ao, .ref ah, .ref ar, .ref ap, .int (iZ ((((t).length : Nat) : Int))), .int (bZ (ng = true)), .int (iZ (((me : Nat) : Int))), .long (lN (mf)), .int (iZ (((mb : Nat) : Int))), .int (iZ (((mm : Nat) : Int))), .long (lN (ms)), .int (iZ (mt)), .long (lN (mq)), .int (iZ (mz))])), (av, .inl (kV, 1404, .inl fv)), (ar, .inl (kR, 1404, .inl (upd fa j (iZ (((dt yy j + 1 : Nat) : Int))))))] := hD
        refine lv_aload_n hx hb d_Mo_cut_75 rfl (lv_at hl 0 rfl) ?_
        refine va_get (D := D) (ci := 5) (v := .ref ar) (C := R_Mo) (T := F_Mo) (N := 18) hx hb hts i_Mo hown hK hP 0 rfl rfl 6 (by decide) (hts _ kw_302_) (fun _ h9 => h9) rfl d_Mo_cut_76 ?_
        refine lv_iload_n hx hb d_Mo_cut_79 rfl (lv_at hl 1 rfl) ?_
        refine zv_iald hx hb hK hP 2 1 rfl rfl j (rfl) (by omega) (by decide) d_Mo_cut_80 ?_
        refine zv_top (y := iZ (((dt yy j + 1 : Nat) : Int))) (pk_us ..) ?_
        refine zv_if_ne (tgt := 88) hx hb d_Mo_cut_81 (by decide) (by omega) (fun c81 => ?_) (fun c81 => absurd c81 (by omega))
        refine lv_iconst (v := iZ (0)) hx hb d_Mo_cut_88 rfl ?_
        refine zv_top (y := bZ (false = true)) ((bZ_f (by decide)).symm) ?_
        refine lv_istore (lv' := [(4, .int (bZ (false = true))), (0, .ref h0), (3, .int (iZ (((j : Nat) : Int))))]) hx hb d_Mo_cut_89 hl (by decide) rfl (fun ls hl => ?_)
        refine lv_iinc (v := iZ (((j + 1 : Nat) : Int))) (lv' := [(3, .int (iZ (((j + 1 : Nat) : Int)))), (4, .int (bZ (false = true))), (0, .ref h0)]) hx hb d_Mo_cut_91 hl (k := 2) rfl ((iZ_add _ _).trans (congrArg iZ (by omega))) (by decide) rfl (fun ls hl => ?_)
        refine lv_goto (tgt := 41) hx hb d_Mo_cut_94 (by decide) ?_
        have h9 : ¬ dt yy j = 9 := by omega
        exact ih (j + 1) (yy + 10 ^ j) false (upd fa j (iZ (((dt yy j + 1 : Nat) : Int)))) _ _ _ (by rw [if_pos c43] at hN; simp; omega) (dig_1 hf hw2 h9 (by omega)) (fun _ => hw1) (fun q => absurd q (by decide)) (hK.sub [0, 1] rfl) (hP.sub [0, 1, 2] rfl) (hD.sub [0, 1, 2] (by decide) rfl) hS (lv_sub hl [2, 0, 1] rfl)
      · refine lv_iconst (v := iZ (0)) hx hb d_Mo_cut_62 rfl ?_
        refine zv_top (y := iZ (((0 : Nat) : Int))) (rfl) ?_
        refine lv_goto (tgt := 74) hx hb d_Mo_cut_63 (by decide) ?_
        refine zv_iast hx hb hK hP hD hS 2 1 rfl rfl j (rfl) (by omega) (by decide) d_Mo_cut_74 (fun H locs hP hD hS => ?_)
        have hP : va_P D classes [(h0, .inr (5, [.int (iZ (th)), .ref au, .ref al, .ref av, .ref ao, .ref ah, .ref ar, .ref ap, .int (iZ ((((t).length : Nat) : Int))), .int (bZ (ng = true)), .int (iZ (((me : Nat) : Int))), .long (lN (mf)), .int (iZ (((mb : Nat) : Int))), .int (iZ (((mm : Nat) : Int))), .long (lN (ms)), .int (iZ (mt)), .long (lN (mq)), .int (iZ (mz))])), (av, .inl (kV, 1404, .inl fv)), (ar, .inl (kR, 1404, .inl (upd fa j (iZ (((0 : Nat) : Int))))))] H := hP
        have hD : va_D A [(h0, .inr (5, [.int (iZ (th)), .ref au, .ref al, .ref av, .ref ao, .ref ah, .ref ar, .ref ap, .int (iZ ((((t).length : Nat) : Int))), .int (bZ (ng = true)), .int (iZ (((me : Nat) : Int))), .long (lN (mf)), .int (iZ (((mb : Nat) : Int))), .int (iZ (((mm : Nat) : Int))), .long (lN (ms)), .int (iZ (mt)), .long (lN (mq)), .int (iZ (mz))])), (av, .inl (kV, 1404, .inl fv)), (ar, .inl (kR, 1404, .inl (upd fa j (iZ (((0 : Nat) : Int))))))] := hD
        refine lv_aload_n hx hb d_Mo_cut_75 rfl (lv_at hl 0 rfl) ?_
        refine va_get (D := D) (ci := 5) (v := .ref ar) (C := R_Mo) (T := F_Mo) (N := 18) hx hb hts i_Mo hown hK hP 0 rfl rfl 6 (by decide) (hts _ kw_302_) (fun _ h9 => h9) rfl d_Mo_cut_76 ?_
        refine lv_iload_n hx hb d_Mo_cut_79 rfl (lv_at hl 1 rfl) ?_
        refine zv_iald hx hb hK hP 2 1 rfl rfl j (rfl) (by omega) (by decide) d_Mo_cut_80 ?_
        refine zv_top (y := iZ (((0 : Nat) : Int))) (pk_us ..) ?_
        refine zv_if_ne (tgt := 88) hx hb d_Mo_cut_81 (by decide) (by omega) (fun c81 => absurd c81 (by omega)) (fun c81 => ?_)
        refine lv_iconst (v := iZ (1)) hx hb d_Mo_cut_84 rfl ?_
        refine zv_top (y := bZ (true = true)) ((bZ_t rfl).symm) ?_
        refine lv_goto (tgt := 89) hx hb d_Mo_cut_85 (by decide) ?_
        refine lv_istore (lv' := [(4, .int (bZ (true = true))), (0, .ref h0), (3, .int (iZ (((j : Nat) : Int))))]) hx hb d_Mo_cut_89 hl (by decide) rfl (fun ls hl => ?_)
        refine lv_iinc (v := iZ (((j + 1 : Nat) : Int))) (lv' := [(3, .int (iZ (((j + 1 : Nat) : Int)))), (4, .int (bZ (true = true))), (0, .ref h0)]) hx hb d_Mo_cut_91 hl (k := 2) rfl ((iZ_add _ _).trans (congrArg iZ (by omega))) (by decide) rfl (fun ls hl => ?_)
        refine lv_goto (tgt := 41) hx hb d_Mo_cut_94 (by decide) ?_
        have h9 : dt yy j = 9 := by omega
        obtain ⟨cy1, cy2, cy3⟩ := cy_nine hw1 hw2 h9
        exact ih (j + 1) (yy - 9 * 10 ^ j) true (upd fa j (iZ (((0 : Nat) : Int)))) _ _ _ (by rw [if_pos c43] at hN; simp; omega) (dig_9 hf hw2 h9) (fun q => absurd q (by decide)) (fun _ => ⟨cy1, cy2⟩) (hK.sub [0, 1] rfl) (hP.sub [0, 1, 2] rfl) (hD.sub [0, 1, 2] (by decide) rfl) hS (lv_sub hl [2, 0, 1] rfl)
set_option maxHeartbeats 4000000 in
set_option maxRecDepth 100000 in
theorem lp_Mo_cut_2 {p : Program} {l : Launch} {e : Env} {s : State} {m : MethodId} {args : Array Value} {below : List Frame} {meth : Method} {c : Code} {A : Nat → Prop} {D : va_G} {Z : Nat → Nat} (h0 : Nat) (th : Int) (au : Nat) (al : Nat) (av : Nat) (ao : Nat) (ah : Nat) (ar : Nat) (ap : Nat) (t : List Nat) (ng : Bool) (me : Nat) (mf : Nat) (mb : Nat) (mm : Nat) (ms : Nat) (mt : Int) (mq : Nat) (mz : Int) (kV : ClassId) (fv : Nat → Int32) (kR : ClassId) (fr : Nat → Int32) (v : Nat) (k : Nat) (mr : Bool) (hV : DigI fv v) (hk : k < 1404) (hlt : v + 10 ^ k < 10 ^ 1404) (C0 : cxA p s m args meth c b_Mo_cut 5 R_Mo none) (hA : ∀ q : Nat, s.heap.size ≤ q → A q) (hE : Ev Z A s s.heap) : ∀ (N : Nat) (j : Nat) (fa : Nat → Int32) (H : Heap) (locs : List Loc) (ls : Array Slot), 1404 - j < N → (j ≤ 1404) → (∀ q, q < j → fa q = iZ ((dt (v - v % 10 ^ k) q : Nat) : Int)) → va_K D classes [(kV, .int), (kR, .int)] s → va_P D classes [(h0, .inr (5, [.int (iZ (th)), .ref au, .ref al, .ref av, .ref ao, .ref ah, .ref ar, .ref ap, .int (iZ ((((t).length : Nat) : Int))), .int (bZ (ng = true)), .int (iZ (((me : Nat) : Int))), .long (lN (mf)), .int (iZ (((mb : Nat) : Int))), .int (iZ (((mm : Nat) : Int))), .long (lN (ms)), .int (iZ (mt)), .long (lN (mq)), .int (iZ (mz))])), (av, .inl (kV, 1404, .inl fv)), (ar, .inl (kR, 1404, .inl fa))] H → va_D A [(h0, .inr (5, [.int (iZ (th)), .ref au, .ref al, .ref av, .ref ao, .ref ah, .ref ar, .ref ap, .int (iZ ((((t).length : Nat) : Int))), .int (bZ (ng = true)), .int (iZ (((me : Nat) : Int))), .long (lN (mf)), .int (iZ (((mb : Nat) : Int))), .int (iZ (((mm : Nat) : Int))), .long (lN (ms)), .int (iZ (mt)), .long (lN (mq)), .int (iZ (mz))])), (av, .inl (kV, 1404, .inl fv)), (ar, .inl (kR, 1404, .inl fa))] → va_S A s.heap H locs → lv_has ls 5 [(0, .ref h0), (1, .int (iZ (((k : Nat) : Int)))), (2, .int (bZ (mr = true))), (3, .int (iZ (((j : Nat) : Int))))] → W p l e ({ frames := 0, cells := 0, slots := 0, locals := 0 } : Room) s m args below meth c H locs 0 0 (MQ below (Qc_Mo_cut D h0 th au al av ao ah ar ap t ng me mf mb mm ms mt mq mz kV fv kR fr v k mr A) args s 0 0 A) (F0 m 2 ls []) := by
  obtain ⟨hx, hb, hml, hown, hts, hr, hlocks⟩ := id C0
  intro N
  induction N with
  | zero => intro j fa H locs ls hN; exact absurd hN (Nat.not_lt_zero _)
  | succ N ih =>
    intro j fa H locs ls hN hj hf hK hP hD hS hl
    refine lv_iload_n hx hb d_Mo_cut_2 rfl (lv_at hl 3 rfl) ?_
    refine lv_sipush (v := iZ (1404)) hx hb d_Mo_cut_3 (by decide) ?_
    refine zv_icmp_ge (tgt := 36) hx hb d_Mo_cut_6 (by decide) (by omega) (by omega) (fun c6 => ?_) (fun c6 => ?_)
    · have ej : j = 1404 := by omega
      refine lv_iload_n hx hb d_Mo_cut_36 rfl (lv_at hl 1 rfl) ?_
      refine lv_istore_n (lv' := [(3, .int (iZ (((k : Nat) : Int)))), (0, .ref h0), (1, .int (iZ (((k : Nat) : Int)))), (2, .int (bZ (mr = true)))]) hx hb d_Mo_cut_37 rfl hl (by decide) rfl (fun ls hl => ?_)
      refine lv_iload_n hx hb d_Mo_cut_38 rfl (lv_at hl 3 rfl) ?_
      refine lv_istore (lv' := [(4, .int (bZ (mr = true))), (3, .int (iZ (((k : Nat) : Int)))), (0, .ref h0), (1, .int (iZ (((k : Nat) : Int)))), (2, .int (bZ (mr = true)))]) hx hb d_Mo_cut_39 hl (by decide) rfl (fun ls hl => ?_)
      exact lp_Mo_cut_41 h0 th au al av ao ah ar ap t ng me mf mb mm ms mt mq mz kV fv kR fr v k mr hV hk hlt C0 hA hE ((if mr = true then 1405 - k else 0) + 1) k (v - v % 10 ^ k) mr fa _ _ _ (Nat.lt_succ_self _) (⟨fun q h => hf q (by omega), Nat.lt_of_le_of_lt (Nat.sub_le _ _) hV.2⟩) (fun q => by unfold ctN; rw [if_neg (by rw [q]; decide), Nat.add_zero]) (fun q => ⟨by unfold ctN; rw [if_pos q], ⟨v / 10 ^ k, ct_dvd v k⟩⟩) (hK.sub [0, 1] rfl) (hP.sub [0, 1, 2] rfl) (hD.sub [0, 1, 2] (by decide) rfl) hS (lv_sub hl [2, 1, 0] rfl)
    · refine lv_aload_n hx hb d_Mo_cut_9 rfl (lv_at hl 0 rfl) ?_
      refine va_get (D := D) (ci := 5) (v := .ref ar) (C := R_Mo) (T := F_Mo) (N := 18) hx hb hts i_Mo hown hK hP 0 rfl rfl 6 (by decide) (hts _ kw_302_) (fun _ h9 => h9) rfl d_Mo_cut_10 ?_
      refine lv_iload_n hx hb d_Mo_cut_13 rfl (lv_at hl 3 rfl) ?_
      refine lv_iload_n hx hb d_Mo_cut_14 rfl (lv_at hl 3 rfl) ?_
      refine lv_iload_n hx hb d_Mo_cut_15 rfl (lv_at hl 1 rfl) ?_
      refine zv_icmp_ge (tgt := 23) hx hb d_Mo_cut_16 (by decide) (by omega) (by omega) (fun c16 => ?_) (fun c16 => ?_)
      · refine lv_aload_n hx hb d_Mo_cut_23 rfl (lv_at hl 0 rfl) ?_
        refine va_get (D := D) (ci := 5) (v := .ref av) (C := R_Mo) (T := F_Mo) (N := 18) hx hb hts i_Mo hown hK hP 0 rfl rfl 3 (by decide) (hts _ kw_299_) (fun _ h9 => h9) rfl d_Mo_cut_24 ?_
        refine lv_iload_n hx hb d_Mo_cut_27 rfl (lv_at hl 3 rfl) ?_
        refine zv_iald hx hb hK hP 1 0 rfl rfl j (rfl) (by omega) (by decide) d_Mo_cut_28 ?_
        refine zv_top (y := iZ (((dt (v - v % 10 ^ k) j : Nat) : Int))) ((hV.1 j (by omega)).trans (congrArg iZ (by rw [dt_ct_hi (by omega)]))) ?_
        refine zv_iast hx hb hK hP hD hS 2 1 rfl rfl j (rfl) (by omega) (by decide) d_Mo_cut_29 (fun H locs hP hD hS => ?_)
        have hP : va_P D classes [(h0, .inr (5, [.int (iZ (th)), .ref au, .ref al, .ref av, .ref ao, .ref ah, .ref ar, .ref ap, .int (iZ ((((t).length : Nat) : Int))), .int (bZ (ng = true)), .int (iZ (((me : Nat) : Int))), .long (lN (mf)), .int (iZ (((mb : Nat) : Int))), .int (iZ (((mm : Nat) : Int))), .long (lN (ms)), .int (iZ (mt)), .long (lN (mq)), .int (iZ (mz))])), (av, .inl (kV, 1404, .inl fv)), (ar, .inl (kR, 1404, .inl (upd fa j (iZ (((dt (v - v % 10 ^ k) j : Nat) : Int))))))] H := hP
        have hD : va_D A [(h0, .inr (5, [.int (iZ (th)), .ref au, .ref al, .ref av, .ref ao, .ref ah, .ref ar, .ref ap, .int (iZ ((((t).length : Nat) : Int))), .int (bZ (ng = true)), .int (iZ (((me : Nat) : Int))), .long (lN (mf)), .int (iZ (((mb : Nat) : Int))), .int (iZ (((mm : Nat) : Int))), .long (lN (ms)), .int (iZ (mt)), .long (lN (mq)), .int (iZ (mz))])), (av, .inl (kV, 1404, .inl fv)), (ar, .inl (kR, 1404, .inl (upd fa j (iZ (((dt (v - v % 10 ^ k) j : Nat) : Int))))))] := hD
        refine lv_iinc (v := iZ (((j + 1 : Nat) : Int))) (lv' := [(3, .int (iZ (((j + 1 : Nat) : Int)))), (0, .ref h0), (1, .int (iZ (((k : Nat) : Int)))), (2, .int (bZ (mr = true)))]) hx hb d_Mo_cut_30 hl (k := 3) rfl ((iZ_add _ _).trans (congrArg iZ (by omega))) (by decide) rfl (fun ls hl => ?_)
        refine lv_goto (tgt := 2) hx hb d_Mo_cut_33 (by decide) ?_
        exact ih (j + 1) (upd fa j (iZ (((dt (v - v % 10 ^ k) j : Nat) : Int)))) _ _ _ (by omega) (by omega) (upd_up (F := fun q => iZ ((dt (v - v % 10 ^ k) q : Nat) : Int)) hf rfl) (hK.sub [0, 1] rfl) (hP.sub [0, 1, 2] rfl) (hD.sub [0, 1, 2] (by decide) rfl) hS (lv_sub hl [1, 2, 3, 0] rfl)
      · refine lv_iconst (v := iZ (0)) hx hb d_Mo_cut_19 rfl ?_
        refine zv_top (y := iZ (((dt (v - v % 10 ^ k) j : Nat) : Int))) (congrArg iZ (by rw [dt_ct_lo (by omega)]; rfl)) ?_
        refine lv_goto (tgt := 29) hx hb d_Mo_cut_20 (by decide) ?_
        refine zv_iast hx hb hK hP hD hS 2 1 rfl rfl j (rfl) (by omega) (by decide) d_Mo_cut_29 (fun H locs hP hD hS => ?_)
        have hP : va_P D classes [(h0, .inr (5, [.int (iZ (th)), .ref au, .ref al, .ref av, .ref ao, .ref ah, .ref ar, .ref ap, .int (iZ ((((t).length : Nat) : Int))), .int (bZ (ng = true)), .int (iZ (((me : Nat) : Int))), .long (lN (mf)), .int (iZ (((mb : Nat) : Int))), .int (iZ (((mm : Nat) : Int))), .long (lN (ms)), .int (iZ (mt)), .long (lN (mq)), .int (iZ (mz))])), (av, .inl (kV, 1404, .inl fv)), (ar, .inl (kR, 1404, .inl (upd fa j (iZ (((dt (v - v % 10 ^ k) j : Nat) : Int))))))] H := hP
        have hD : va_D A [(h0, .inr (5, [.int (iZ (th)), .ref au, .ref al, .ref av, .ref ao, .ref ah, .ref ar, .ref ap, .int (iZ ((((t).length : Nat) : Int))), .int (bZ (ng = true)), .int (iZ (((me : Nat) : Int))), .long (lN (mf)), .int (iZ (((mb : Nat) : Int))), .int (iZ (((mm : Nat) : Int))), .long (lN (ms)), .int (iZ (mt)), .long (lN (mq)), .int (iZ (mz))])), (av, .inl (kV, 1404, .inl fv)), (ar, .inl (kR, 1404, .inl (upd fa j (iZ (((dt (v - v % 10 ^ k) j : Nat) : Int))))))] := hD
        refine lv_iinc (v := iZ (((j + 1 : Nat) : Int))) (lv' := [(3, .int (iZ (((j + 1 : Nat) : Int)))), (0, .ref h0), (1, .int (iZ (((k : Nat) : Int)))), (2, .int (bZ (mr = true)))]) hx hb d_Mo_cut_30 hl (k := 3) rfl ((iZ_add _ _).trans (congrArg iZ (by omega))) (by decide) rfl (fun ls hl => ?_)
        refine lv_goto (tgt := 2) hx hb d_Mo_cut_33 (by decide) ?_
        exact ih (j + 1) (upd fa j (iZ (((dt (v - v % 10 ^ k) j : Nat) : Int)))) _ _ _ (by omega) (by omega) (upd_up (F := fun q => iZ ((dt (v - v % 10 ^ k) q : Nat) : Int)) hf rfl) (hK.sub [0, 1] rfl) (hP.sub [0, 1, 2] rfl) (hD.sub [0, 1, 2] (by decide) rfl) hS (lv_sub hl [1, 2, 3, 0] rfl)
set_option maxHeartbeats 4000000 in
set_option maxRecDepth 100000 in
theorem c_Mo_cut (l : Launch) (D : va_G) (Z : Nat → Nat) (hz9 : Nat) (h0 : Nat) (th : Int) (au : Nat) (al : Nat) (av : Nat) (ao : Nat) (ah : Nat) (ar : Nat) (ap : Nat) (t : List Nat) (ng : Bool) (me : Nat) (mf : Nat) (mb : Nat) (mm : Nat) (ms : Nat) (mt : Int) (mq : Nat) (mz : Int) (kV : ClassId) (fv : Nat → Int32) (kR : ClassId) (fr : Nat → Int32) (v : Nat) (k : Nat) (mr : Bool) (hV : DigI fv v) (hk : k < 1404) (hlt : v + 10 ^ k < 10 ^ 1404) : Met l y_Mo_cut (.code y_Mo_cut b_Mo_cut 5 none :: gT) ({ frames := 0, cells := 0, slots := 0, locals := 0 } : Room) (va_Pc [.ref h0, .int (iZ (((k : Nat) : Int))), .int (bZ (mr = true))] (cpre D Z [(h0, .inr (5, [.int (iZ (th)), .ref au, .ref al, .ref av, .ref ao, .ref ah, .ref ar, .ref ap, .int (iZ ((((t).length : Nat) : Int))), .int (bZ (ng = true)), .int (iZ (((me : Nat) : Int))), .long (lN (mf)), .int (iZ (((mb : Nat) : Int))), .int (iZ (((mm : Nat) : Int))), .long (lN (ms)), .int (iZ (mt)), .long (lN (mq)), .int (iZ (mz))])), (av, .inl (kV, 1404, .inl fv)), (ar, .inl (kR, 1404, .inl fr))] [(kV, .int), (kR, .int)] hz9)) (Qc_Mo_cut D h0 th au al av ao ah ar ap t ng me mf mb mm ms mt mq mz kV fv kR fr v k mr (va_A [(h0, .inr (5, [.int (iZ (th)), .ref au, .ref al, .ref av, .ref ao, .ref ah, .ref ar, .ref ap, .int (iZ ((((t).length : Nat) : Int))), .int (bZ (ng = true)), .int (iZ (((me : Nat) : Int))), .long (lN (mf)), .int (iZ (((mb : Nat) : Int))), .int (iZ (((mm : Nat) : Int))), .long (lN (ms)), .int (iZ (mt)), .long (lN (mq)), .int (iZ (mz))])), (av, .inl (kV, 1404, .inl fv)), (ar, .inl (kR, 1404, .inl fr))] hz9)) 0 0 (va_A [(h0, .inr (5, [.int (iZ (th)), .ref au, .ref al, .ref av, .ref ao, .ref ah, .ref ar, .ref ap, .int (iZ ((((t).length : Nat) : Int))), .int (bZ (ng = true)), .int (iZ (((me : Nat) : Int))), .long (lN (mf)), .int (iZ (((mb : Nat) : Int))), .int (iZ (((mm : Nat) : Int))), .long (lN (ms)), .int (iZ (mt)), .long (lN (mq)), .int (iZ (mz))])), (av, .inl (kV, 1404, .inl fv)), (ar, .inl (kR, 1404, .inl fr))] hz9) := by
  refine met_go (Qf := Qc_Mo_cut D h0 th au al av ao ah ar ap t ng me mf mb mm ms mt mq mz kV fv kR fr v k mr) (ff := fun A => A) (by decide) ?_
  intro p e s m below meth c A C0 hin hsz9 hA hE hK hP hD
  obtain ⟨hx, hb, hml, hown, hts, hr, hlocks⟩ := id C0
  have hS : va_S A s.heap s.heap [] := va_S.rf
  have hl := lv_entry [.ref h0, .int (iZ (((k : Nat) : Int))), .int (bZ (mr = true))] (n := 5) (Nat.le_of_ble_eq_true rfl)
  rw [lg_entry_eq]
  generalize (lg_sl [.ref h0, .int (iZ (((k : Nat) : Int))), .int (bZ (mr = true))] ++ List.replicate (5 - (lg_sl [.ref h0, .int (iZ (((k : Nat) : Int))), .int (bZ (mr = true))]).length) Slot.unset).toArray = ls at hl ⊢
  have hl : lv_has ls 5 [(0, .ref h0), (1, .int (iZ (((k : Nat) : Int)))), (2, .int (bZ (mr = true)))] := hl
  refine lv_iconst (v := iZ (0)) hx hb d_Mo_cut_0 rfl ?_
  refine lv_istore_n (lv' := [(3, .int (iZ (0))), (0, .ref h0), (1, .int (iZ (((k : Nat) : Int)))), (2, .int (bZ (mr = true)))]) hx hb d_Mo_cut_1 rfl hl (by decide) rfl (fun ls hl => ?_)
  exact lp_Mo_cut_2 h0 th au al av ao ah ar ap t ng me mf mb mm ms mt mq mz kV fv kR fr v k mr hV hk hlt C0 hA hE (1404 - 0 + 1) 0 fr _ _ _ (Nat.lt_succ_self _) (by omega) (fun q h => absurd h (Nat.not_lt_zero q)) (hK.sub [0, 1] rfl) (hP.sub [0, 1, 2] rfl) (hD.sub [0, 1, 2] (by decide) rfl) hS (lv_sub hl [1, 2, 3, 0] rfl)
