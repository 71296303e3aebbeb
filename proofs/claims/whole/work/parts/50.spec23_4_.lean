theorem kw_355_ : Cond.constantLong R_Mo 120 (9) ∈ gT := gT_in 766 (by decide +kernel) (by decide +kernel)
theorem kw_356_ : Cond.constantLong R_Mo 154 (97) ∈ gT := gT_in 789 (by decide +kernel) (by decide +kernel)
theorem kw_357_ : Cond.constantLong R_Mo 152 (48) ∈ gT := gT_in 788 (by decide +kernel) (by decide +kernel)
theorem d_Mo_figure_0 : decode b_Mo_figure 0 = .ok (.iload_n 1, 1) := by decide +kernel
theorem d_Mo_figure_1 : decode b_Mo_figure 1 = .ok (.sipush 1080, 3) := by decide +kernel
theorem d_Mo_figure_4 : decode b_Mo_figure 4 = .ok (.iadd, 1) := by decide +kernel
theorem d_Mo_figure_5 : decode b_Mo_figure 5 = .ok (.istore_n 2, 1) := by decide +kernel
theorem d_Mo_figure_6 : decode b_Mo_figure 6 = .ok (.aload_n 0, 1) := by decide +kernel
theorem d_Mo_figure_7 : decode b_Mo_figure 7 = .ok (.getfield 102, 3) := by decide +kernel
theorem d_Mo_figure_10 : decode b_Mo_figure 10 = .ok (.lstore_n 3, 1) := by decide +kernel
theorem d_Mo_figure_11 : decode b_Mo_figure 11 = .ok (.aload_n 0, 1) := by decide +kernel
theorem d_Mo_figure_12 : decode b_Mo_figure 12 = .ok (.getfield 95, 3) := by decide +kernel
theorem d_Mo_figure_15 : decode b_Mo_figure 15 = .ok (.istore 5, 2) := by decide +kernel
theorem d_Mo_figure_17 : decode b_Mo_figure 17 = .ok (.iload 5, 2) := by decide +kernel
theorem d_Mo_figure_19 : decode b_Mo_figure 19 = .ok (.iload_n 2, 1) := by decide +kernel
theorem d_Mo_figure_20 : decode b_Mo_figure 20 = .ok (.if_icmp .ge 21, 3) := by decide +kernel
theorem d_Mo_figure_23 : decode b_Mo_figure 23 = .ok (.lload_n 3, 1) := by decide +kernel
theorem d_Mo_figure_24 : decode b_Mo_figure 24 = .ok (.lconst 0, 1) := by decide +kernel
theorem d_Mo_figure_25 : decode b_Mo_figure 25 = .ok (.lcmp, 1) := by decide +kernel
theorem d_Mo_figure_26 : decode b_Mo_figure 26 = .ok (.ifCond .le 15, 3) := by decide +kernel
theorem d_Mo_figure_29 : decode b_Mo_figure 29 = .ok (.lload_n 3, 1) := by decide +kernel
theorem d_Mo_figure_30 : decode b_Mo_figure 30 = .ok (.ldc2_w 105, 3) := by decide +kernel
theorem d_Mo_figure_33 : decode b_Mo_figure 33 = .ok (.ldiv, 1) := by decide +kernel
theorem d_Mo_figure_34 : decode b_Mo_figure 34 = .ok (.lstore_n 3, 1) := by decide +kernel
theorem d_Mo_figure_35 : decode b_Mo_figure 35 = .ok (.iinc 5 1, 3) := by decide +kernel
theorem d_Mo_figure_38 : decode b_Mo_figure 38 = .ok (.goto (-21), 3) := by decide +kernel
theorem d_Mo_figure_41 : decode b_Mo_figure 41 = .ok (.iload_n 2, 1) := by decide +kernel
theorem d_Mo_figure_42 : decode b_Mo_figure 42 = .ok (.aload_n 0, 1) := by decide +kernel
theorem d_Mo_figure_43 : decode b_Mo_figure 43 = .ok (.getfield 95, 3) := by decide +kernel
theorem d_Mo_figure_46 : decode b_Mo_figure 46 = .ok (.if_icmp .ge 7, 3) := by decide +kernel
theorem d_Mo_figure_49 : decode b_Mo_figure 49 = .ok (.iconst 0, 1) := by decide +kernel
theorem d_Mo_figure_50 : decode b_Mo_figure 50 = .ok (.goto 9, 3) := by decide +kernel
theorem d_Mo_figure_53 : decode b_Mo_figure 53 = .ok (.lload_n 3, 1) := by decide +kernel
theorem d_Mo_figure_54 : decode b_Mo_figure 54 = .ok (.ldc2_w 105, 3) := by decide +kernel
theorem d_Mo_figure_57 : decode b_Mo_figure 57 = .ok (.lrem, 1) := by decide +kernel
theorem d_Mo_figure_58 : decode b_Mo_figure 58 = .ok (.l2i, 1) := by decide +kernel
theorem d_Mo_figure_59 : decode b_Mo_figure 59 = .ok (.ireturn, 1) := by decide +kernel
theorem d_Mo_shortestTop_0 : decode b_Mo_shortestTop 0 = .ok (.aload_n 0, 1) := by decide +kernel
theorem d_Mo_shortestTop_1 : decode b_Mo_shortestTop 1 = .ok (.getfield 95, 3) := by decide +kernel
theorem d_Mo_shortestTop_4 : decode b_Mo_shortestTop 4 = .ok (.sipush 1080, 3) := by decide +kernel
theorem d_Mo_shortestTop_7 : decode b_Mo_shortestTop 7 = .ok (.isub, 1) := by decide +kernel
theorem d_Mo_shortestTop_8 : decode b_Mo_shortestTop 8 = .ok (.istore_n 1, 1) := by decide +kernel
theorem d_Mo_shortestTop_9 : decode b_Mo_shortestTop 9 = .ok (.aload_n 0, 1) := by decide +kernel
theorem d_Mo_shortestTop_10 : decode b_Mo_shortestTop 10 = .ok (.getfield 102, 3) := by decide +kernel
theorem d_Mo_shortestTop_13 : decode b_Mo_shortestTop 13 = .ok (.lstore_n 2, 1) := by decide +kernel
theorem d_Mo_shortestTop_14 : decode b_Mo_shortestTop 14 = .ok (.lload_n 2, 1) := by decide +kernel
theorem d_Mo_shortestTop_15 : decode b_Mo_shortestTop 15 = .ok (.ldc2_w 120, 3) := by decide +kernel
theorem d_Mo_shortestTop_18 : decode b_Mo_shortestTop 18 = .ok (.lcmp, 1) := by decide +kernel
theorem d_Mo_shortestTop_19 : decode b_Mo_shortestTop 19 = .ok (.ifCond .le 15, 3) := by decide +kernel
theorem d_Mo_shortestTop_22 : decode b_Mo_shortestTop 22 = .ok (.iinc 1 1, 3) := by decide +kernel
theorem d_Mo_shortestTop_25 : decode b_Mo_shortestTop 25 = .ok (.lload_n 2, 1) := by decide +kernel
theorem d_Mo_shortestTop_26 : decode b_Mo_shortestTop 26 = .ok (.ldc2_w 105, 3) := by decide +kernel
theorem d_Mo_shortestTop_29 : decode b_Mo_shortestTop 29 = .ok (.ldiv, 1) := by decide +kernel
theorem d_Mo_shortestTop_30 : decode b_Mo_shortestTop 30 = .ok (.lstore_n 2, 1) := by decide +kernel
theorem d_Mo_shortestTop_31 : decode b_Mo_shortestTop 31 = .ok (.goto (-17), 3) := by decide +kernel
theorem d_Mo_shortestTop_34 : decode b_Mo_shortestTop 34 = .ok (.iload_n 1, 1) := by decide +kernel
theorem d_Mo_shortestTop_35 : decode b_Mo_shortestTop 35 = .ok (.ireturn, 1) := by decide +kernel
theorem d_Mo_isBelow_0 : decode b_Mo_isBelow 0 = .ok (.aload_n 0, 1) := by decide +kernel
theorem d_Mo_isBelow_1 : decode b_Mo_isBelow 1 = .ok (.invokevirtual 77, 3) := by decide +kernel
theorem d_Mo_isBelow_4 : decode b_Mo_isBelow 4 = .ok (.iload_n 1, 1) := by decide +kernel
theorem d_Mo_isBelow_5 : decode b_Mo_isBelow 5 = .ok (.sipush 1080, 3) := by decide +kernel
theorem d_Mo_isBelow_8 : decode b_Mo_isBelow 8 = .ok (.iadd, 1) := by decide +kernel
theorem d_Mo_isBelow_9 : decode b_Mo_isBelow 9 = .ok (.if_icmp .ge 7, 3) := by decide +kernel
theorem d_Mo_isBelow_12 : decode b_Mo_isBelow 12 = .ok (.iconst 1, 1) := by decide +kernel
theorem d_Mo_isBelow_13 : decode b_Mo_isBelow 13 = .ok (.goto 4, 3) := by decide +kernel
theorem d_Mo_isBelow_16 : decode b_Mo_isBelow 16 = .ok (.iconst 0, 1) := by decide +kernel
theorem d_Mo_isBelow_17 : decode b_Mo_isBelow 17 = .ok (.ireturn, 1) := by decide +kernel
theorem d_Mo_hexadecimalFigure_0 : decode b_Mo_hexadecimalFigure 0 = .ok (.aload_n 0, 1) := by decide +kernel
theorem d_Mo_hexadecimalFigure_1 : decode b_Mo_hexadecimalFigure 1 = .ok (.lload_n 1, 1) := by decide +kernel
theorem d_Mo_hexadecimalFigure_2 : decode b_Mo_hexadecimalFigure 2 = .ok (.ldc2_w 105, 3) := by decide +kernel
theorem d_Mo_hexadecimalFigure_5 : decode b_Mo_hexadecimalFigure 5 = .ok (.lcmp, 1) := by decide +kernel
theorem d_Mo_hexadecimalFigure_6 : decode b_Mo_hexadecimalFigure 6 = .ok (.ifCond .ge 11, 3) := by decide +kernel
theorem d_Mo_hexadecimalFigure_9 : decode b_Mo_hexadecimalFigure 9 = .ok (.ldc2_w 152, 3) := by decide +kernel
theorem d_Mo_hexadecimalFigure_12 : decode b_Mo_hexadecimalFigure 12 = .ok (.lload_n 1, 1) := by decide +kernel
theorem d_Mo_hexadecimalFigure_13 : decode b_Mo_hexadecimalFigure 13 = .ok (.ladd, 1) := by decide +kernel
theorem d_Mo_hexadecimalFigure_14 : decode b_Mo_hexadecimalFigure 14 = .ok (.goto 12, 3) := by decide +kernel
theorem d_Mo_hexadecimalFigure_17 : decode b_Mo_hexadecimalFigure 17 = .ok (.ldc2_w 154, 3) := by decide +kernel
theorem d_Mo_hexadecimalFigure_20 : decode b_Mo_hexadecimalFigure 20 = .ok (.lload_n 1, 1) := by decide +kernel
theorem d_Mo_hexadecimalFigure_21 : decode b_Mo_hexadecimalFigure 21 = .ok (.ladd, 1) := by decide +kernel
theorem d_Mo_hexadecimalFigure_22 : decode b_Mo_hexadecimalFigure 22 = .ok (.ldc2_w 105, 3) := by decide +kernel
theorem d_Mo_hexadecimalFigure_25 : decode b_Mo_hexadecimalFigure 25 = .ok (.lsub, 1) := by decide +kernel
theorem d_Mo_hexadecimalFigure_26 : decode b_Mo_hexadecimalFigure 26 = .ok (.l2i, 1) := by decide +kernel
theorem d_Mo_hexadecimalFigure_27 : decode b_Mo_hexadecimalFigure 27 = .ok (.invokevirtual 110, 3) := by decide +kernel
theorem d_Mo_hexadecimalFigure_30 : decode b_Mo_hexadecimalFigure 30 = .ok (.return_, 1) := by decide +kernel
theorem d_Mo_isMore_0 : decode b_Mo_isMore 0 = .ok (.iconst 0, 1) := by decide +kernel
theorem d_Mo_isMore_1 : decode b_Mo_isMore 1 = .ok (.istore_n 3, 1) := by decide +kernel
theorem d_Mo_isMore_2 : decode b_Mo_isMore 2 = .ok (.iconst 0, 1) := by decide +kernel
theorem d_Mo_isMore_3 : decode b_Mo_isMore 3 = .ok (.istore 4, 2) := by decide +kernel
theorem d_Mo_isMore_5 : decode b_Mo_isMore 5 = .ok (.iload 4, 2) := by decide +kernel
theorem d_Mo_isMore_7 : decode b_Mo_isMore 7 = .ok (.iload_n 1, 1) := by decide +kernel
theorem d_Mo_isMore_8 : decode b_Mo_isMore 8 = .ok (.if_icmp .ge 29, 3) := by decide +kernel
theorem d_Mo_isMore_11 : decode b_Mo_isMore 11 = .ok (.iload_n 3, 1) := by decide +kernel
theorem d_Mo_isMore_12 : decode b_Mo_isMore 12 = .ok (.ifCond .ne 13, 3) := by decide +kernel
theorem d_Mo_isMore_15 : decode b_Mo_isMore 15 = .ok (.aload_n 0, 1) := by decide +kernel
theorem d_Mo_isMore_16 : decode b_Mo_isMore 16 = .ok (.getfield 16, 3) := by decide +kernel
theorem d_Mo_isMore_19 : decode b_Mo_isMore 19 = .ok (.iload 4, 2) := by decide +kernel
theorem d_Mo_isMore_21 : decode b_Mo_isMore 21 = .ok (.iaload, 1) := by decide +kernel
theorem d_Mo_isMore_22 : decode b_Mo_isMore 22 = .ok (.ifCond .eq 7, 3) := by decide +kernel
theorem d_Mo_isMore_25 : decode b_Mo_isMore 25 = .ok (.iconst 1, 1) := by decide +kernel
theorem d_Mo_isMore_26 : decode b_Mo_isMore 26 = .ok (.goto 4, 3) := by decide +kernel
theorem d_Mo_isMore_29 : decode b_Mo_isMore 29 = .ok (.iconst 0, 1) := by decide +kernel
theorem d_Mo_isMore_30 : decode b_Mo_isMore 30 = .ok (.istore_n 3, 1) := by decide +kernel
theorem d_Mo_isMore_31 : decode b_Mo_isMore 31 = .ok (.iinc 4 1, 3) := by decide +kernel
theorem d_Mo_isMore_34 : decode b_Mo_isMore 34 = .ok (.goto (-29), 3) := by decide +kernel
theorem d_Mo_isMore_37 : decode b_Mo_isMore 37 = .ok (.iload_n 3, 1) := by decide +kernel
theorem d_Mo_isMore_38 : decode b_Mo_isMore 38 = .ok (.ifCond .eq 7, 3) := by decide +kernel
theorem d_Mo_isMore_41 : decode b_Mo_isMore 41 = .ok (.iload_n 2, 1) := by decide +kernel
theorem d_Mo_isMore_42 : decode b_Mo_isMore 42 = .ok (.ifCond .ne 5, 3) := by decide +kernel
theorem d_Mo_isMore_45 : decode b_Mo_isMore 45 = .ok (.iconst 0, 1) := by decide +kernel
theorem d_Mo_isMore_46 : decode b_Mo_isMore 46 = .ok (.ireturn, 1) := by decide +kernel
theorem d_Mo_isMore_47 : decode b_Mo_isMore 47 = .ok (.aload_n 0, 1) := by decide +kernel
theorem d_Mo_isMore_48 : decode b_Mo_isMore 48 = .ok (.iload_n 1, 1) := by decide +kernel
theorem d_Mo_isMore_49 : decode b_Mo_isMore 49 = .ok (.invokevirtual 98, 3) := by decide +kernel
theorem d_Mo_isMore_52 : decode b_Mo_isMore 52 = .ok (.istore 4, 2) := by decide +kernel
theorem d_Mo_isMore_54 : decode b_Mo_isMore 54 = .ok (.iload_n 2, 1) := by decide +kernel
theorem d_Mo_isMore_55 : decode b_Mo_isMore 55 = .ok (.iconst 1, 1) := by decide +kernel
theorem d_Mo_isMore_56 : decode b_Mo_isMore 56 = .ok (.if_icmp .eq 30, 3) := by decide +kernel
theorem d_Mo_isMore_59 : decode b_Mo_isMore 59 = .ok (.iload 4, 2) := by decide +kernel
theorem d_Mo_isMore_61 : decode b_Mo_isMore 61 = .ok (.ifCond .gt 25, 3) := by decide +kernel
theorem d_Mo_isMore_64 : decode b_Mo_isMore 64 = .ok (.iload 4, 2) := by decide +kernel
theorem d_Mo_isMore_66 : decode b_Mo_isMore 66 = .ok (.ifCond .ne 24, 3) := by decide +kernel
theorem d_Mo_isMore_69 : decode b_Mo_isMore 69 = .ok (.iload_n 2, 1) := by decide +kernel
theorem d_Mo_isMore_70 : decode b_Mo_isMore 70 = .ok (.iconst 2, 1) := by decide +kernel
theorem d_Mo_isMore_71 : decode b_Mo_isMore 71 = .ok (.if_icmp .eq 15, 3) := by decide +kernel
theorem d_Mo_isMore_74 : decode b_Mo_isMore 74 = .ok (.aload_n 0, 1) := by decide +kernel
theorem d_Mo_isMore_75 : decode b_Mo_isMore 75 = .ok (.getfield 16, 3) := by decide +kernel
theorem d_Mo_isMore_78 : decode b_Mo_isMore 78 = .ok (.iload_n 1, 1) := by decide +kernel
theorem d_Mo_isMore_79 : decode b_Mo_isMore 79 = .ok (.iaload, 1) := by decide +kernel
theorem d_Mo_isMore_80 : decode b_Mo_isMore 80 = .ok (.iconst 2, 1) := by decide +kernel
theorem d_Mo_isMore_81 : decode b_Mo_isMore 81 = .ok (.irem, 1) := by decide +kernel
theorem d_Mo_isMore_82 : decode b_Mo_isMore 82 = .ok (.iconst 1, 1) := by decide +kernel
theorem d_Mo_isMore_83 : decode b_Mo_isMore 83 = .ok (.if_icmp .ne 7, 3) := by decide +kernel
theorem d_Mo_isMore_86 : decode b_Mo_isMore 86 = .ok (.iconst 1, 1) := by decide +kernel
theorem d_Mo_isMore_87 : decode b_Mo_isMore 87 = .ok (.goto 4, 3) := by decide +kernel
theorem d_Mo_isMore_90 : decode b_Mo_isMore 90 = .ok (.iconst 0, 1) := by decide +kernel
theorem d_Mo_isMore_91 : decode b_Mo_isMore 91 = .ok (.ireturn, 1) := by decide +kernel
theorem d_Mo_figureAt_0 : decode b_Mo_figureAt 0 = .ok (.iload_n 1, 1) := by decide +kernel
theorem d_Mo_figureAt_1 : decode b_Mo_figureAt 1 = .ok (.sipush 1080, 3) := by decide +kernel
theorem d_Mo_figureAt_4 : decode b_Mo_figureAt 4 = .ok (.iadd, 1) := by decide +kernel
theorem d_Mo_figureAt_5 : decode b_Mo_figureAt 5 = .ok (.istore_n 2, 1) := by decide +kernel
theorem d_Mo_figureAt_6 : decode b_Mo_figureAt 6 = .ok (.iload_n 2, 1) := by decide +kernel
theorem d_Mo_figureAt_7 : decode b_Mo_figureAt 7 = .ok (.ifCond .lt 10, 3) := by decide +kernel
theorem d_Mo_figureAt_10 : decode b_Mo_figureAt 10 = .ok (.iload_n 2, 1) := by decide +kernel
theorem d_Mo_figureAt_11 : decode b_Mo_figureAt 11 = .ok (.sipush 1404, 3) := by decide +kernel
theorem d_Mo_figureAt_14 : decode b_Mo_figureAt 14 = .ok (.if_icmp .lt 7, 3) := by decide +kernel
theorem d_Mo_figureAt_17 : decode b_Mo_figureAt 17 = .ok (.iconst 0, 1) := by decide +kernel
theorem d_Mo_figureAt_18 : decode b_Mo_figureAt 18 = .ok (.goto 9, 3) := by decide +kernel
theorem d_Mo_figureAt_21 : decode b_Mo_figureAt 21 = .ok (.aload_n 0, 1) := by decide +kernel
theorem d_Mo_figureAt_22 : decode b_Mo_figureAt 22 = .ok (.getfield 25, 3) := by decide +kernel
theorem d_Mo_figureAt_25 : decode b_Mo_figureAt 25 = .ok (.iload_n 2, 1) := by decide +kernel
theorem d_Mo_figureAt_26 : decode b_Mo_figureAt 26 = .ok (.iaload, 1) := by decide +kernel
theorem d_Mo_figureAt_27 : decode b_Mo_figureAt 27 = .ok (.ireturn, 1) := by decide +kernel
abbrev Qc_Mo_figure (D : va_G) (h0 : Nat) (th : Int) (au : Nat) (al : Nat) (av : Nat) (ao : Nat) (ah : Nat) (ar : Nat) (ap : Nat) (t : List Nat) (ng : Bool) (me : Nat) (mf : Nat) (mb : Nat) (mm : Nat) (ms : Nat) (mt : Int) (mq : Nat) (mz : Int) (z : Int) (A : Nat → Prop) : Array Value → State → Outcome → State → Prop := vp_Si (fun r : Int32 => r = iZ (((figAt mq (z + 1080 - mz) : Nat) : Int)))
set_option maxHeartbeats 4000000 in
set_option maxRecDepth 100000 in
theorem lp_Mo_figure_17 {p : Program} {l : Launch} {e : Env} {s : State} {m : MethodId} {args : Array Value} {below : List Frame} {meth : Method} {c : Code} {A : Nat → Prop} {D : va_G} {Z : Nat → Nat} (h0 : Nat) (th : Int) (au : Nat) (al : Nat) (av : Nat) (ao : Nat) (ah : Nat) (ar : Nat) (ap : Nat) (t : List Nat) (ng : Bool) (me : Nat) (mf : Nat) (mb : Nat) (mm : Nat) (ms : Nat) (mt : Int) (mq : Nat) (mz : Int) (z : Int) (hz : -5000 < z ∧ z < 5000) (hmz : -100000 < mz ∧ mz < 100000) (hmq : mq < 1000000000000000000) (C0 : cxA p s m args meth c b_Mo_figure 6 R_Mo (some .int)) (hA : ∀ q : Nat, s.heap.size ≤ q → A q) (hE : Ev Z A s s.heap) : ∀ (N : Nat) (i : Nat) (ls : Array Slot), (z + 1080 - mz - i).toNat < N → (mz + ((i : Nat) : Int) ≤ max (z + 1080) mz) → va_K D classes [] s → va_P D classes [(h0, .inr (5, [.int (iZ (th)), .ref au, .ref al, .ref av, .ref ao, .ref ah, .ref ar, .ref ap, .int (iZ ((((t).length : Nat) : Int))), .int (bZ (ng = true)), .int (iZ (((me : Nat) : Int))), .long (lN (mf)), .int (iZ (((mb : Nat) : Int))), .int (iZ (((mm : Nat) : Int))), .long (lN (ms)), .int (iZ (mt)), .long (lN (mq)), .int (iZ (mz))]))] s.heap → va_D A [(h0, .inr (5, [.int (iZ (th)), .ref au, .ref al, .ref av, .ref ao, .ref ah, .ref ar, .ref ap, .int (iZ ((((t).length : Nat) : Int))), .int (bZ (ng = true)), .int (iZ (((me : Nat) : Int))), .long (lN (mf)), .int (iZ (((mb : Nat) : Int))), .int (iZ (((mm : Nat) : Int))), .long (lN (ms)), .int (iZ (mt)), .long (lN (mq)), .int (iZ (mz))]))] → va_S A s.heap s.heap [] → lv_has ls 6 [(0, .ref h0), (2, .int (iZ (z + 1080))), (3, .long (lN (mq / 10 ^ i))), (5, .int (iZ (mz + ((i : Nat) : Int))))] → W p l e ({ frames := 0, cells := 0, slots := 0, locals := 0 } : Room) s m args below meth c s.heap [] 0 0 (MQ below (Qc_Mo_figure D h0 th au al av ao ah ar ap t ng me mf mb mm ms mt mq mz z A) args s 0 0 (fun _ => False)) (F0 m 17 ls []) := by
  obtain ⟨hx, hb, hml, hown, hts, hr, hlocks⟩ := id C0
  intro N
  induction N with
  | zero => intro i ls hN; exact absurd hN (Nat.not_lt_zero _)
  | succ N ih =>
    intro i ls hN hi hK hP hD hS hl
    have hdv := Nat.div_le_self mq (10 ^ i)
    refine lv_iload hx hb d_Mo_figure_17 (lv_at hl 3 rfl) ?_
    refine lv_iload_n hx hb d_Mo_figure_19 rfl (lv_at hl 1 rfl) ?_
    refine zv_icmp_ge (tgt := 41) hx hb d_Mo_figure_20 (by decide) (by omega) (by omega) (fun c20 => ?_) (fun c20 => ?_)
    · refine lv_iload_n hx hb d_Mo_figure_41 rfl (lv_at hl 1 rfl) ?_
      refine lv_aload_n hx hb d_Mo_figure_42 rfl (lv_at hl 0 rfl) ?_
      refine va_get (D := D) (ci := 5) (v := .int (iZ (mz))) (C := R_Mo) (T := F_Mo) (N := 18) hx hb hts i_Mo hown hK hP 0 rfl rfl 17 (by decide) (hts _ kw_336_) (fun _ h9 => h9) rfl d_Mo_figure_43 ?_
      refine zv_icmp_ge (tgt := 53) hx hb d_Mo_figure_46 (by decide) (by omega) (by omega) (fun c46 => ?_) (fun c46 => ?_)
      · refine lv_lload_n hx hb d_Mo_figure_53 rfl (lv_at hl 2 rfl) ?_
        refine lv_ldc2 (v := (10)) hx hb hown (hts _ kw_335_) d_Mo_figure_54 ?_
        refine nv_top (y := lN 10) (by decide) ?_
        refine nv_lrem hx hb d_Mo_figure_57 (by omega) (by decide) (by decide) ?_
        refine nv_l2i hx hb d_Mo_figure_58 ?_
        exact er_i hx hb hr hlocks d_Mo_figure_59 (show iZ ((((mq / 10 ^ i) % 10 : Nat) : Int)) = iZ (((figAt mq (z + 1080 - mz) : Nat) : Int)) from congrArg iZ (congrArg Int.ofNat (fig_end (by omega) (by first | exact Or.inr hz0 | exact Or.inl (by omega)))))
      · refine lv_iconst (v := iZ (0)) hx hb d_Mo_figure_49 rfl ?_
        refine lv_goto (tgt := 59) hx hb d_Mo_figure_50 (by decide) ?_
        exact er_i hx hb hr hlocks d_Mo_figure_59 (show iZ (0) = iZ (((figAt mq (z + 1080 - mz) : Nat) : Int)) from congrArg iZ (by rw [figAt_neg (by omega)]; rfl))
    · refine lv_lload_n hx hb d_Mo_figure_23 rfl (lv_at hl 2 rfl) ?_
      refine lv_lconst (v := lN 0) hx hb d_Mo_figure_24 rfl ?_
      refine nv_lcmp_le (tgt := 41) hx hb d_Mo_figure_25 d_Mo_figure_26 (by decide) (by omega) (by decide) (fun c25 => ?_) (fun c25 => ?_)
      · have hz0 : mq / 10 ^ i = 0 := Nat.le_zero.mp c25
        refine lv_iload_n hx hb d_Mo_figure_41 rfl (lv_at hl 1 rfl) ?_
        refine lv_aload_n hx hb d_Mo_figure_42 rfl (lv_at hl 0 rfl) ?_
        refine va_get (D := D) (ci := 5) (v := .int (iZ (mz))) (C := R_Mo) (T := F_Mo) (N := 18) hx hb hts i_Mo hown hK hP 0 rfl rfl 17 (by decide) (hts _ kw_336_) (fun _ h9 => h9) rfl d_Mo_figure_43 ?_
        refine zv_icmp_ge (tgt := 53) hx hb d_Mo_figure_46 (by decide) (by omega) (by omega) (fun c46 => ?_) (fun c46 => ?_)
        · refine lv_lload_n hx hb d_Mo_figure_53 rfl (lv_at hl 2 rfl) ?_
          refine lv_ldc2 (v := (10)) hx hb hown (hts _ kw_335_) d_Mo_figure_54 ?_
          refine nv_top (y := lN 10) (by decide) ?_
          refine nv_lrem hx hb d_Mo_figure_57 (by omega) (by decide) (by decide) ?_
          refine nv_l2i hx hb d_Mo_figure_58 ?_
          exact er_i hx hb hr hlocks d_Mo_figure_59 (show iZ ((((mq / 10 ^ i) % 10 : Nat) : Int)) = iZ (((figAt mq (z + 1080 - mz) : Nat) : Int)) from congrArg iZ (congrArg Int.ofNat (fig_end (by omega) (by first | exact Or.inr hz0 | exact Or.inl (by omega)))))
        · refine lv_iconst (v := iZ (0)) hx hb d_Mo_figure_49 rfl ?_
          refine lv_goto (tgt := 59) hx hb d_Mo_figure_50 (by decide) ?_
          exact er_i hx hb hr hlocks d_Mo_figure_59 (show iZ (0) = iZ (((figAt mq (z + 1080 - mz) : Nat) : Int)) from congrArg iZ (by rw [figAt_neg (by omega)]; rfl))
      · refine lv_lload_n hx hb d_Mo_figure_29 rfl (lv_at hl 2 rfl) ?_
        refine lv_ldc2 (v := (10)) hx hb hown (hts _ kw_335_) d_Mo_figure_30 ?_
        refine nv_top (y := lN 10) (by decide) ?_
        refine nv_ldiv hx hb d_Mo_figure_33 (by omega) (by decide) (by decide) ?_
        refine nv_top (y := lN (mq / 10 ^ (i + 1))) (congrArg lN (by rw [Nat.pow_succ, ← Nat.div_div_eq_div_mul])) ?_
        refine lv_lstore_n (lv' := [(3, .long (lN (mq / 10 ^ (i + 1)))), (0, .ref h0), (2, .int (iZ (z + 1080))), (5, .int (iZ (mz + ((i : Nat) : Int))))]) hx hb d_Mo_figure_34 rfl hl (by decide) rfl (fun ls hl => ?_)
        refine lv_iinc (v := iZ (mz + ((i + 1 : Nat) : Int))) (lv' := [(5, .int (iZ (mz + ((i + 1 : Nat) : Int)))), (3, .long (lN (mq / 10 ^ (i + 1)))), (0, .ref h0), (2, .int (iZ (z + 1080)))]) hx hb d_Mo_figure_35 hl (k := 3) rfl ((iZ_add _ _).trans (congrArg iZ (by omega))) (by decide) rfl (fun ls hl => ?_)
        refine lv_goto (tgt := 17) hx hb d_Mo_figure_38 (by decide) ?_
        exact ih (i + 1) _ (by omega) (by omega) (hK.sub [] rfl) (hP.sub [0] rfl) (hD.sub [0] (by decide) rfl) hS (lv_sub hl [2, 3, 1, 0] rfl)
set_option maxHeartbeats 4000000 in
set_option maxRecDepth 100000 in
theorem c_Mo_figure (l : Launch) (D : va_G) (Z : Nat → Nat) (hz9 : Nat) (h0 : Nat) (th : Int) (au : Nat) (al : Nat) (av : Nat) (ao : Nat) (ah : Nat) (ar : Nat) (ap : Nat) (t : List Nat) (ng : Bool) (me : Nat) (mf : Nat) (mb : Nat) (mm : Nat) (ms : Nat) (mt : Int) (mq : Nat) (mz : Int) (z : Int) (hz : -5000 < z ∧ z < 5000) (hmz : -100000 < mz ∧ mz < 100000) (hmq : mq < 1000000000000000000) : Met l y_Mo_figure (.code y_Mo_figure b_Mo_figure 6 (some .int) :: gT) ({ frames := 0, cells := 0, slots := 0, locals := 0 } : Room) (va_Pc [.ref h0, .int (iZ (z))] (cpre D Z [(h0, .inr (5, [.int (iZ (th)), .ref au, .ref al, .ref av, .ref ao, .ref ah, .ref ar, .ref ap, .int (iZ ((((t).length : Nat) : Int))), .int (bZ (ng = true)), .int (iZ (((me : Nat) : Int))), .long (lN (mf)), .int (iZ (((mb : Nat) : Int))), .int (iZ (((mm : Nat) : Int))), .long (lN (ms)), .int (iZ (mt)), .long (lN (mq)), .int (iZ (mz))]))] [] hz9)) (Qc_Mo_figure D h0 th au al av ao ah ar ap t ng me mf mb mm ms mt mq mz z (va_A [(h0, .inr (5, [.int (iZ (th)), .ref au, .ref al, .ref av, .ref ao, .ref ah, .ref ar, .ref ap, .int (iZ ((((t).length : Nat) : Int))), .int (bZ (ng = true)), .int (iZ (((me : Nat) : Int))), .long (lN (mf)), .int (iZ (((mb : Nat) : Int))), .int (iZ (((mm : Nat) : Int))), .long (lN (ms)), .int (iZ (mt)), .long (lN (mq)), .int (iZ (mz))]))] hz9)) 0 0 (fun _ => False) := by
  refine met_go (Qf := Qc_Mo_figure D h0 th au al av ao ah ar ap t ng me mf mb mm ms mt mq mz z) (ff := fun _ _ => False) (by decide) ?_
  intro p e s m below meth c A C0 hin hsz9 hA hE hK hP hD
  obtain ⟨hx, hb, hml, hown, hts, hr, hlocks⟩ := id C0
  have hS : va_S A s.heap s.heap [] := va_S.rf
  have hl := lv_entry [.ref h0, .int (iZ (z))] (n := 6) (Nat.le_of_ble_eq_true rfl)
  rw [lg_entry_eq]
  generalize (lg_sl [.ref h0, .int (iZ (z))] ++ List.replicate (6 - (lg_sl [.ref h0, .int (iZ (z))]).length) Slot.unset).toArray = ls at hl ⊢
  have hl : lv_has ls 6 [(0, .ref h0), (1, .int (iZ (z)))] := hl
  refine lv_iload_n hx hb d_Mo_figure_0 rfl (lv_at hl 1 rfl) ?_
  refine lv_sipush (v := iZ (1080)) hx hb d_Mo_figure_1 (by decide) ?_
  refine zv_iadd hx hb d_Mo_figure_4 ?_
  refine lv_istore_n (lv' := [(2, .int (iZ (z + 1080))), (0, .ref h0), (1, .int (iZ (z)))]) hx hb d_Mo_figure_5 rfl hl (by decide) rfl (fun ls hl => ?_)
  refine lv_aload_n hx hb d_Mo_figure_6 rfl (lv_at hl 1 rfl) ?_
  refine va_get (D := D) (ci := 5) (v := .long (lN (mq))) (C := R_Mo) (T := F_Mo) (N := 18) hx hb hts i_Mo hown hK hP 0 rfl rfl 16 (by decide) (hts _ kw_334_) (fun _ h9 => h9) rfl d_Mo_figure_7 ?_
  refine nv_top (y := lN (mq / 10 ^ 0)) (congrArg lN (by rw [Nat.pow_zero, Nat.div_one])) ?_
  refine lv_lstore_n (lv' := [(3, .long (lN (mq / 10 ^ 0))), (2, .int (iZ (z + 1080))), (0, .ref h0), (1, .int (iZ (z)))]) hx hb d_Mo_figure_10 rfl hl (by decide) rfl (fun ls hl => ?_)
  refine lv_aload_n hx hb d_Mo_figure_11 rfl (lv_at hl 2 rfl) ?_
  refine va_get (D := D) (ci := 5) (v := .int (iZ (mz))) (C := R_Mo) (T := F_Mo) (N := 18) hx hb hts i_Mo hown hK hP 0 rfl rfl 17 (by decide) (hts _ kw_336_) (fun _ h9 => h9) rfl d_Mo_figure_12 ?_
  refine zv_top (y := iZ (mz + ((0 : Nat) : Int))) (congrArg iZ (by omega)) ?_
  refine lv_istore (lv' := [(5, .int (iZ (mz + ((0 : Nat) : Int)))), (3, .long (lN (mq / 10 ^ 0))), (2, .int (iZ (z + 1080))), (0, .ref h0), (1, .int (iZ (z)))]) hx hb d_Mo_figure_15 hl (by decide) rfl (fun ls hl => ?_)
  exact lp_Mo_figure_17 h0 th au al av ao ah ar ap t ng me mf mb mm ms mt mq mz z hz hmz hmq C0 hA hE ((z + 1080 - mz - 0).toNat + 1) 0 _ (Nat.lt_succ_self _) (by omega) (hK.sub [] rfl) (hP.sub [0] rfl) (hD.sub [0] (by decide) rfl) hS (lv_sub hl [3, 2, 1, 0] rfl)
abbrev Qc_Mo_shortestTop (D : va_G) (h0 : Nat) (th : Int) (au : Nat) (al : Nat) (av : Nat) (ao : Nat) (ah : Nat) (ar : Nat) (ap : Nat) (t : List Nat) (ng : Bool) (me : Nat) (mf : Nat) (mb : Nat) (mm : Nat) (ms : Nat) (mt : Int) (mq : Nat) (mz : Int) (A : Nat → Prop) : Array Value → State → Outcome → State → Prop := vp_Si (fun r : Int32 => r = iZ (mz - 1080 + ((nfig mq : Nat) : Int) - 1))
set_option maxHeartbeats 4000000 in
set_option maxRecDepth 100000 in
theorem lp_Mo_shortestTop_14 {p : Program} {l : Launch} {e : Env} {s : State} {m : MethodId} {args : Array Value} {below : List Frame} {meth : Method} {c : Code} {A : Nat → Prop} {D : va_G} {Z : Nat → Nat} (h0 : Nat) (th : Int) (au : Nat) (al : Nat) (av : Nat) (ao : Nat) (ah : Nat) (ar : Nat) (ap : Nat) (t : List Nat) (ng : Bool) (me : Nat) (mf : Nat) (mb : Nat) (mm : Nat) (ms : Nat) (mt : Int) (mq : Nat) (mz : Int) (hmz : -100000 < mz ∧ mz < 100000) (hmq : 0 < mq ∧ mq < 1000000000000000000) (C0 : cxA p s m args meth c b_Mo_shortestTop 4 R_Mo (some .int)) (hA : ∀ q : Nat, s.heap.size ≤ q → A q) (hE : Ev Z A s s.heap) : ∀ (N : Nat) (i : Nat) (ls : Array Slot), mq / 10 ^ i < N → (0 < mq / 10 ^ i) → va_K D classes [] s → va_P D classes [(h0, .inr (5, [.int (iZ (th)), .ref au, .ref al, .ref av, .ref ao, .ref ah, .ref ar, .ref ap, .int (iZ ((((t).length : Nat) : Int))), .int (bZ (ng = true)), .int (iZ (((me : Nat) : Int))), .long (lN (mf)), .int (iZ (((mb : Nat) : Int))), .int (iZ (((mm : Nat) : Int))), .long (lN (ms)), .int (iZ (mt)), .long (lN (mq)), .int (iZ (mz))]))] s.heap → va_D A [(h0, .inr (5, [.int (iZ (th)), .ref au, .ref al, .ref av, .ref ao, .ref ah, .ref ar, .ref ap, .int (iZ ((((t).length : Nat) : Int))), .int (bZ (ng = true)), .int (iZ (((me : Nat) : Int))), .long (lN (mf)), .int (iZ (((mb : Nat) : Int))), .int (iZ (((mm : Nat) : Int))), .long (lN (ms)), .int (iZ (mt)), .long (lN (mq)), .int (iZ (mz))]))] → va_S A s.heap s.heap [] → lv_has ls 4 [(1, .int (iZ (mz - 1080 + ((i : Nat) : Int)))), (2, .long (lN (mq / 10 ^ i)))] → W p l e ({ frames := 0, cells := 0, slots := 0, locals := 0 } : Room) s m args below meth c s.heap [] 0 0 (MQ below (Qc_Mo_shortestTop D h0 th au al av ao ah ar ap t ng me mf mb mm ms mt mq mz A) args s 0 0 (fun _ => False)) (F0 m 14 ls []) := by
  obtain ⟨hx, hb, hml, hown, hts, hr, hlocks⟩ := id C0
  intro N
  induction N with
  | zero => intro i ls hN; exact absurd hN (Nat.not_lt_zero _)
  | succ N ih =>
    intro i ls hN hi hK hP hD hS hl
    have hdv := Nat.div_le_self mq (10 ^ i)
    have hun : mq / 10 ^ (i + 1) = mq / 10 ^ i / 10 := by rw [Nat.pow_succ, ← Nat.div_div_eq_div_mul]
    refine lv_lload_n hx hb d_Mo_shortestTop_14 rfl (lv_at hl 1 rfl) ?_
    refine lv_ldc2 (v := (9)) hx hb hown (hts _ kw_355_) d_Mo_shortestTop_15 ?_
    refine nv_top (y := lN 9) (by decide) ?_
    refine nv_lcmp_le (tgt := 34) hx hb d_Mo_shortestTop_18 d_Mo_shortestTop_19 (by decide) (by omega) (by decide) (fun c18 => ?_) (fun c18 => ?_)
    · refine lv_iload_n hx hb d_Mo_shortestTop_34 rfl (lv_at hl 0 rfl) ?_
      exact er_i hx hb hr hlocks d_Mo_shortestTop_35 (show iZ (mz - 1080 + ((i : Nat) : Int)) = iZ (mz - 1080 + ((nfig mq : Nat) : Int) - 1) from congrArg iZ (by rw [nfig_div hi (by omega)]; omega))
    · refine lv_iinc (v := iZ (mz - 1080 + ((i + 1 : Nat) : Int))) (lv' := [(1, .int (iZ (mz - 1080 + ((i + 1 : Nat) : Int)))), (2, .long (lN (mq / 10 ^ i)))]) hx hb d_Mo_shortestTop_22 hl (k := 0) rfl ((iZ_add _ _).trans (congrArg iZ (by omega))) (by decide) rfl (fun ls hl => ?_)
      refine lv_lload_n hx hb d_Mo_shortestTop_25 rfl (lv_at hl 1 rfl) ?_
      refine lv_ldc2 (v := (10)) hx hb hown (hts _ kw_335_) d_Mo_shortestTop_26 ?_
      refine nv_top (y := lN 10) (by decide) ?_
      refine nv_ldiv hx hb d_Mo_shortestTop_29 (by omega) (by decide) (by decide) ?_
      refine nv_top (y := lN (mq / 10 ^ (i + 1))) (congrArg lN hun.symm) ?_
      refine lv_lstore_n (lv' := [(2, .long (lN (mq / 10 ^ (i + 1)))), (1, .int (iZ (mz - 1080 + ((i + 1 : Nat) : Int))))]) hx hb d_Mo_shortestTop_30 rfl hl (by decide) rfl (fun ls hl => ?_)
      refine lv_goto (tgt := 14) hx hb d_Mo_shortestTop_31 (by decide) ?_
      exact ih (i + 1) _ (by rw [hun]; omega) (by rw [hun]; omega) (hK.sub [] rfl) (hP.sub [0] rfl) (hD.sub [0] (by decide) rfl) hS (lv_sub hl [1, 0] rfl)
set_option maxHeartbeats 4000000 in
set_option maxRecDepth 100000 in
theorem c_Mo_shortestTop (l : Launch) (D : va_G) (Z : Nat → Nat) (hz9 : Nat) (h0 : Nat) (th : Int) (au : Nat) (al : Nat) (av : Nat) (ao : Nat) (ah : Nat) (ar : Nat) (ap : Nat) (t : List Nat) (ng : Bool) (me : Nat) (mf : Nat) (mb : Nat) (mm : Nat) (ms : Nat) (mt : Int) (mq : Nat) (mz : Int) (hmz : -100000 < mz ∧ mz < 100000) (hmq : 0 < mq ∧ mq < 1000000000000000000) : Met l y_Mo_shortestTop (.code y_Mo_shortestTop b_Mo_shortestTop 4 (some .int) :: gT) ({ frames := 0, cells := 0, slots := 0, locals := 0 } : Room) (va_Pc [.ref h0] (cpre D Z [(h0, .inr (5, [.int (iZ (th)), .ref au, .ref al, .ref av, .ref ao, .ref ah, .ref ar, .ref ap, .int (iZ ((((t).length : Nat) : Int))), .int (bZ (ng = true)), .int (iZ (((me : Nat) : Int))), .long (lN (mf)), .int (iZ (((mb : Nat) : Int))), .int (iZ (((mm : Nat) : Int))), .long (lN (ms)), .int (iZ (mt)), .long (lN (mq)), .int (iZ (mz))]))] [] hz9)) (Qc_Mo_shortestTop D h0 th au al av ao ah ar ap t ng me mf mb mm ms mt mq mz (va_A [(h0, .inr (5, [.int (iZ (th)), .ref au, .ref al, .ref av, .ref ao, .ref ah, .ref ar, .ref ap, .int (iZ ((((t).length : Nat) : Int))), .int (bZ (ng = true)), .int (iZ (((me : Nat) : Int))), .long (lN (mf)), .int (iZ (((mb : Nat) : Int))), .int (iZ (((mm : Nat) : Int))), .long (lN (ms)), .int (iZ (mt)), .long (lN (mq)), .int (iZ (mz))]))] hz9)) 0 0 (fun _ => False) := by
  refine met_go (Qf := Qc_Mo_shortestTop D h0 th au al av ao ah ar ap t ng me mf mb mm ms mt mq mz) (ff := fun _ _ => False) (by decide) ?_
  intro p e s m below meth c A C0 hin hsz9 hA hE hK hP hD
  obtain ⟨hx, hb, hml, hown, hts, hr, hlocks⟩ := id C0
  have hS : va_S A s.heap s.heap [] := va_S.rf
  have hl := lv_entry [.ref h0] (n := 4) (Nat.le_of_ble_eq_true rfl)
  rw [lg_entry_eq]
  generalize (lg_sl [.ref h0] ++ List.replicate (4 - (lg_sl [.ref h0]).length) Slot.unset).toArray = ls at hl ⊢
  have hl : lv_has ls 4 [(0, .ref h0)] := hl
  refine lv_aload_n hx hb d_Mo_shortestTop_0 rfl (lv_at hl 0 rfl) ?_
  refine va_get (D := D) (ci := 5) (v := .int (iZ (mz))) (C := R_Mo) (T := F_Mo) (N := 18) hx hb hts i_Mo hown hK hP 0 rfl rfl 17 (by decide) (hts _ kw_336_) (fun _ h9 => h9) rfl d_Mo_shortestTop_1 ?_
  refine lv_sipush (v := iZ (1080)) hx hb d_Mo_shortestTop_4 (by decide) ?_
  refine zv_isub hx hb d_Mo_shortestTop_7 ?_
  refine zv_top (y := iZ (mz - 1080 + ((0 : Nat) : Int))) (congrArg iZ (by omega)) ?_
  refine lv_istore_n (lv' := [(1, .int (iZ (mz - 1080 + ((0 : Nat) : Int)))), (0, .ref h0)]) hx hb d_Mo_shortestTop_8 rfl hl (by decide) rfl (fun ls hl => ?_)
  refine lv_aload_n hx hb d_Mo_shortestTop_9 rfl (lv_at hl 1 rfl) ?_
  refine va_get (D := D) (ci := 5) (v := .long (lN (mq))) (C := R_Mo) (T := F_Mo) (N := 18) hx hb hts i_Mo hown hK hP 0 rfl rfl 16 (by decide) (hts _ kw_334_) (fun _ h9 => h9) rfl d_Mo_shortestTop_10 ?_
  refine nv_top (y := lN (mq / 10 ^ 0)) (congrArg lN (by rw [Nat.pow_zero, Nat.div_one])) ?_
  refine lv_lstore_n (lv' := [(2, .long (lN (mq / 10 ^ 0))), (1, .int (iZ (mz - 1080 + ((0 : Nat) : Int)))), (0, .ref h0)]) hx hb d_Mo_shortestTop_13 rfl hl (by decide) rfl (fun ls hl => ?_)
  exact lp_Mo_shortestTop_14 h0 th au al av ao ah ar ap t ng me mf mb mm ms mt mq mz hmz hmq C0 hA hE (mq / 10 ^ 0 + 1) 0 _ (Nat.lt_succ_self _) (by rw [Nat.pow_zero, Nat.div_one]; exact hmq.1) (hK.sub [] rfl) (hP.sub [0] rfl) (hD.sub [0] (by decide) rfl) hS (lv_sub hl [1, 0] rfl)
abbrev Qc_Mo_isBelow (D : va_G) (h0 : Nat) (th : Int) (au : Nat) (al : Nat) (av : Nat) (ao : Nat) (ah : Nat) (ar : Nat) (ap : Nat) (t : List Nat) (ng : Bool) (me : Nat) (mf : Nat) (mb : Nat) (mm : Nat) (ms : Nat) (mt : Int) (mq : Nat) (mz : Int) (kV : ClassId) (fv : Nat → Int32) (v : Nat) (z : Int) (A : Nat → Prop) : Array Value → State → Outcome → State → Prop := vp_Si (fun r : Int32 => r = bZ (((nfig v : Nat) : Int) - 1 < z + 1080))
set_option maxHeartbeats 4000000 in
set_option maxRecDepth 100000 in
theorem c_Mo_isBelow (l : Launch) (D : va_G) (Z : Nat → Nat) (hz9 : Nat) (h0 : Nat) (th : Int) (au : Nat) (al : Nat) (av : Nat) (ao : Nat) (ah : Nat) (ar : Nat) (ap : Nat) (t : List Nat) (ng : Bool) (me : Nat) (mf : Nat) (mb : Nat) (mm : Nat) (ms : Nat) (mt : Int) (mq : Nat) (mz : Int) (kV : ClassId) (fv : Nat → Int32) (v : Nat) (z : Int) (hV : DigI fv v) (hv0 : 0 < v) (hz : -5000 < z ∧ z < 5000) : Met l y_Mo_isBelow (.code y_Mo_isBelow b_Mo_isBelow 2 (some .boolean) :: gT) ({ frames := 1, cells := 0, slots := 0, locals := 21 } : Room) (va_Pc [.ref h0, .int (iZ (z))] (cpre D Z [(h0, .inr (5, [.int (iZ (th)), .ref au, .ref al, .ref av, .ref ao, .ref ah, .ref ar, .ref ap, .int (iZ ((((t).length : Nat) : Int))), .int (bZ (ng = true)), .int (iZ (((me : Nat) : Int))), .long (lN (mf)), .int (iZ (((mb : Nat) : Int))), .int (iZ (((mm : Nat) : Int))), .long (lN (ms)), .int (iZ (mt)), .long (lN (mq)), .int (iZ (mz))])), (av, .inl (kV, 1404, .inl fv))] [(kV, .int)] hz9)) (Qc_Mo_isBelow D h0 th au al av ao ah ar ap t ng me mf mb mm ms mt mq mz kV fv v z (va_A [(h0, .inr (5, [.int (iZ (th)), .ref au, .ref al, .ref av, .ref ao, .ref ah, .ref ar, .ref ap, .int (iZ ((((t).length : Nat) : Int))), .int (bZ (ng = true)), .int (iZ (((me : Nat) : Int))), .long (lN (mf)), .int (iZ (((mb : Nat) : Int))), .int (iZ (((mm : Nat) : Int))), .long (lN (ms)), .int (iZ (mt)), .long (lN (mq)), .int (iZ (mz))])), (av, .inl (kV, 1404, .inl fv))] hz9)) 0 0 (fun _ => False) := by
  refine met_go (Qf := Qc_Mo_isBelow D h0 th au al av ao ah ar ap t ng me mf mb mm ms mt mq mz kV fv v z) (ff := fun _ _ => False) (by decide) ?_
  intro p e s m below meth c A C0 hin hsz9 hA hE hK hP hD
  obtain ⟨hx, hb, hml, hown, hts, hr, hlocks⟩ := id C0
  have hS : va_S A s.heap s.heap [] := va_S.rf
  have hl := lv_entry [.ref h0, .int (iZ (z))] (n := 2) (Nat.le_of_ble_eq_true rfl)
  rw [lg_entry_eq]
  generalize (lg_sl [.ref h0, .int (iZ (z))] ++ List.replicate (2 - (lg_sl [.ref h0, .int (iZ (z))]).length) Slot.unset).toArray = ls at hl ⊢
  have hl : lv_has ls 2 [(0, .ref h0), (1, .int (iZ (z)))] := hl
  have hnv := nfig_le hV.2
  refine lv_aload_n hx hb d_Mo_isBelow_0 rfl (lv_at hl 0 rfl) ?_
  refine kg_i (kr_V (C0 := R_Mo) (ci := 5) (i0 := 0) (As := []) (rest := []) C0 (c_Mo_top l D Z _ h0 th au al av ao ah ar ap t ng me mf mb mm ms mt mq mz kV fv v (by assumption) (by assumption)) q_y_Mo_top kw_331_ kw_332_ kw_333_ kw_314_ hd_y_Mo_top rfl rfl ⟨Nat.le_of_ble_eq_true rfl, Nat.le_of_ble_eq_true rfl⟩ (hP.sub (ws' := [(h0, .inr (5, [.int (iZ (th)), .ref au, .ref al, .ref av, .ref ao, .ref ah, .ref ar, .ref ap, .int (iZ ((((t).length : Nat) : Int))), .int (bZ (ng = true)), .int (iZ (((me : Nat) : Int))), .long (lN (mf)), .int (iZ (((mb : Nat) : Int))), .int (iZ (((mm : Nat) : Int))), .long (lN (ms)), .int (iZ (mt)), .long (lN (mq)), .int (iZ (mz))])), (av, .inl (kV, 1404, .inl fv))]) [0, 1] rfl) (hD.sub (ws' := [(h0, .inr (5, [.int (iZ (th)), .ref au, .ref al, .ref av, .ref ao, .ref ah, .ref ar, .ref ap, .int (iZ ((((t).length : Nat) : Int))), .int (bZ (ng = true)), .int (iZ (((me : Nat) : Int))), .long (lN (mf)), .int (iZ (((mb : Nat) : Int))), .int (iZ (((mm : Nat) : Int))), .long (lN (ms)), .int (iZ (mt)), .long (lN (mq)), .int (iZ (mz))])), (av, .inl (kV, 1404, .inl fv))]) [0, 1] (by decide) rfl) (hK.sub (tys' := [(kV, .int)]) [0] rfl) hE hS (va_free (wc := [(h0, .inr (5, [.int (iZ (th)), .ref au, .ref al, .ref av, .ref ao, .ref ah, .ref ar, .ref ap, .int (iZ ((((t).length : Nat) : Int))), .int (bZ (ng = true)), .int (iZ (((me : Nat) : Int))), .long (lN (mf)), .int (iZ (((mb : Nat) : Int))), .int (iZ (((mm : Nat) : Int))), .long (lN (ms)), .int (iZ (mt)), .long (lN (mq)), .int (iZ (mz))])), (av, .inl (kV, 1404, .inl fv))]) hD hS hA [0, 1] rfl) rfl rfl rfl hl.1 rfl (Nat.le_of_ble_eq_true rfl) d_Mo_isBelow_1 ⟨Nat.le_of_ble_eq_true rfl, Nat.le_of_ble_eq_true rfl⟩) (fun r hr1 => ?_)
  obtain rfl : r = iZ (((nfig v : Nat) : Int) - 1) := hr1
  refine lv_iload_n hx hb d_Mo_isBelow_4 rfl (lv_at hl 1 rfl) ?_
  refine lv_sipush (v := iZ (1080)) hx hb d_Mo_isBelow_5 (by decide) ?_
  refine zv_iadd hx hb d_Mo_isBelow_8 ?_
  refine zv_icmp_ge (tgt := 16) hx hb d_Mo_isBelow_9 (by decide) (by omega) (by omega) (fun c9 => ?_) (fun c9 => ?_)
  · refine lv_iconst (v := iZ (0)) hx hb d_Mo_isBelow_16 rfl ?_
    exact er_z hx hb hr hlocks (by decide) d_Mo_isBelow_17 (show iZ (0) = bZ (((nfig v : Nat) : Int) - 1 < z + 1080) from by first | exact (bZ_t (by omega)).symm | exact (bZ_f (by omega)).symm)
  · refine lv_iconst (v := iZ (1)) hx hb d_Mo_isBelow_12 rfl ?_
    refine lv_goto (tgt := 17) hx hb d_Mo_isBelow_13 (by decide) ?_
    exact er_z hx hb hr hlocks (by decide) d_Mo_isBelow_17 (show iZ (1) = bZ (((nfig v : Nat) : Int) - 1 < z + 1080) from by first | exact (bZ_t (by omega)).symm | exact (bZ_f (by omega)).symm)
abbrev Qc_Mo_hexadecimalFigure (D : va_G) (h0 : Nat) (th : Int) (au : Nat) (al : Nat) (av : Nat) (ao : Nat) (ah : Nat) (ar : Nat) (ap : Nat) (t : List Nat) (ng : Bool) (me : Nat) (mf : Nat) (mb : Nat) (mm : Nat) (ms : Nat) (mt : Int) (mq : Nat) (mz : Int) (kP : ClassId) (fp : Nat → Int32) (dd : Nat) (A : Nat → Prop) : Array Value → State → Outcome → State → Prop := va_Qv (fun u : Nat → Int32 => MPap u (t ++ [chr dd])) (fun (u : Nat → Int32) t9 => cpost D A [(h0, .inr (5, [.int (iZ (th)), .ref au, .ref al, .ref av, .ref ao, .ref ah, .ref ar, .ref ap, .int (iZ ((((t ++ [chr dd]).length : Nat) : Int))), .int (bZ (ng = true)), .int (iZ (((me : Nat) : Int))), .long (lN (mf)), .int (iZ (((mb : Nat) : Int))), .int (iZ (((mm : Nat) : Int))), .long (lN (ms)), .int (iZ (mt)), .long (lN (mq)), .int (iZ (mz))])), (ap, .inl (kP, 1600, .inl u))] [(kP, .int)] t9) A
set_option maxHeartbeats 4000000 in
set_option maxRecDepth 100000 in
theorem c_Mo_hexadecimalFigure (l : Launch) (D : va_G) (Z : Nat → Nat) (hz9 : Nat) (h0 : Nat) (th : Int) (au : Nat) (al : Nat) (av : Nat) (ao : Nat) (ah : Nat) (ar : Nat) (ap : Nat) (t : List Nat) (ng : Bool) (me : Nat) (mf : Nat) (mb : Nat) (mm : Nat) (ms : Nat) (mt : Int) (mq : Nat) (mz : Int) (kP : ClassId) (fp : Nat → Int32) (dd : Nat) (hp8 : MPap fp t) (hd16 : dd < 16) (hl8 : t.length < 1600) : Met l y_Mo_hexadecimalFigure (.code y_Mo_hexadecimalFigure b_Mo_hexadecimalFigure 3 none :: gT) ({ frames := 1, cells := 0, slots := 0, locals := 21 } : Room) (va_Pc [.ref h0, .long (lN (dd))] (cpre D Z [(h0, .inr (5, [.int (iZ (th)), .ref au, .ref al, .ref av, .ref ao, .ref ah, .ref ar, .ref ap, .int (iZ ((((t).length : Nat) : Int))), .int (bZ (ng = true)), .int (iZ (((me : Nat) : Int))), .long (lN (mf)), .int (iZ (((mb : Nat) : Int))), .int (iZ (((mm : Nat) : Int))), .long (lN (ms)), .int (iZ (mt)), .long (lN (mq)), .int (iZ (mz))])), (ap, .inl (kP, 1600, .inl fp))] [(kP, .int)] hz9)) (Qc_Mo_hexadecimalFigure D h0 th au al av ao ah ar ap t ng me mf mb mm ms mt mq mz kP fp dd (va_A [(h0, .inr (5, [.int (iZ (th)), .ref au, .ref al, .ref av, .ref ao, .ref ah, .ref ar, .ref ap, .int (iZ ((((t).length : Nat) : Int))), .int (bZ (ng = true)), .int (iZ (((me : Nat) : Int))), .long (lN (mf)), .int (iZ (((mb : Nat) : Int))), .int (iZ (((mm : Nat) : Int))), .long (lN (ms)), .int (iZ (mt)), .long (lN (mq)), .int (iZ (mz))])), (ap, .inl (kP, 1600, .inl fp))] hz9)) 0 0 (va_A [(h0, .inr (5, [.int (iZ (th)), .ref au, .ref al, .ref av, .ref ao, .ref ah, .ref ar, .ref ap, .int (iZ ((((t).length : Nat) : Int))), .int (bZ (ng = true)), .int (iZ (((me : Nat) : Int))), .long (lN (mf)), .int (iZ (((mb : Nat) : Int))), .int (iZ (((mm : Nat) : Int))), .long (lN (ms)), .int (iZ (mt)), .long (lN (mq)), .int (iZ (mz))])), (ap, .inl (kP, 1600, .inl fp))] hz9) := by
  refine met_go (Qf := Qc_Mo_hexadecimalFigure D h0 th au al av ao ah ar ap t ng me mf mb mm ms mt mq mz kP fp dd) (ff := fun A => A) (by decide) ?_
  intro p e s m below meth c A C0 hin hsz9 hA hE hK hP hD
  obtain ⟨hx, hb, hml, hown, hts, hr, hlocks⟩ := id C0
  have hS : va_S A s.heap s.heap [] := va_S.rf
  have hl := lv_entry [.ref h0, .long (lN (dd))] (n := 3) (Nat.le_of_ble_eq_true rfl)
  rw [lg_entry_eq]
  generalize (lg_sl [.ref h0, .long (lN (dd))] ++ List.replicate (3 - (lg_sl [.ref h0, .long (lN (dd))]).length) Slot.unset).toArray = ls at hl ⊢
  have hl : lv_has ls 3 [(0, .ref h0), (1, .long (lN (dd)))] := hl
  refine lv_aload_n hx hb d_Mo_hexadecimalFigure_0 rfl (lv_at hl 0 rfl) ?_
  refine lv_lload_n hx hb d_Mo_hexadecimalFigure_1 rfl (lv_at hl 1 rfl) ?_
  refine lv_ldc2 (v := (10)) hx hb hown (hts _ kw_335_) d_Mo_hexadecimalFigure_2 ?_
  refine nv_top (y := lN 10) (by decide) ?_
  refine nv_lcmp_ge (tgt := 17) hx hb d_Mo_hexadecimalFigure_5 d_Mo_hexadecimalFigure_6 (by decide) (by omega) (by decide) (fun c5 => ?_) (fun c5 => ?_)
  · refine lv_ldc2 (v := (97)) hx hb hown (hts _ kw_356_) d_Mo_hexadecimalFigure_17 ?_
    refine nv_top (y := lN 97) (by decide) ?_
    refine lv_lload_n hx hb d_Mo_hexadecimalFigure_20 rfl (lv_at hl 1 rfl) ?_
    refine nv_ladd hx hb d_Mo_hexadecimalFigure_21 ?_
    refine lv_ldc2 (v := (10)) hx hb hown (hts _ kw_335_) d_Mo_hexadecimalFigure_22 ?_
    refine nv_top (y := lN 10) (by decide) ?_
    refine nv_lsub hx hb d_Mo_hexadecimalFigure_25 (by omega) ?_
    refine nv_top (y := lN (chr dd)) (congrArg lN (by unfold chr; rw [if_neg (by omega)]; omega)) ?_
    refine nv_l2i hx hb d_Mo_hexadecimalFigure_26 ?_
    refine kw_v (wr := []) (tr := []) (kr_V (C0 := R_Mo) (ci := 5) (i0 := 0) (As := [.int (iZ (((chr dd : Nat) : Int)))]) (rest := []) C0 (c_Mo_add l D Z _ h0 th au al av ao ah ar ap t ng me mf mb mm ms mt mq mz kP fp (chr dd) (by assumption) (chr_lt hd16) (hl8)) q_y_Mo_add kw_347_ kw_348_ kw_349_ kw_314_ hd_y_Mo_add rfl rfl ⟨Nat.le_of_ble_eq_true rfl, Nat.le_of_ble_eq_true rfl⟩ (hP.sub (ws' := [(h0, .inr (5, [.int (iZ (th)), .ref au, .ref al, .ref av, .ref ao, .ref ah, .ref ar, .ref ap, .int (iZ ((((t).length : Nat) : Int))), .int (bZ (ng = true)), .int (iZ (((me : Nat) : Int))), .long (lN (mf)), .int (iZ (((mb : Nat) : Int))), .int (iZ (((mm : Nat) : Int))), .long (lN (ms)), .int (iZ (mt)), .long (lN (mq)), .int (iZ (mz))])), (ap, .inl (kP, 1600, .inl fp))]) [0, 1] rfl) (hD.sub (ws' := [(h0, .inr (5, [.int (iZ (th)), .ref au, .ref al, .ref av, .ref ao, .ref ah, .ref ar, .ref ap, .int (iZ ((((t).length : Nat) : Int))), .int (bZ (ng = true)), .int (iZ (((me : Nat) : Int))), .long (lN (mf)), .int (iZ (((mb : Nat) : Int))), .int (iZ (((mm : Nat) : Int))), .long (lN (ms)), .int (iZ (mt)), .long (lN (mq)), .int (iZ (mz))])), (ap, .inl (kP, 1600, .inl fp))]) [0, 1] (by decide) rfl) (hK.sub (tys' := [(kP, .int)]) [0] rfl) hE hS (va_free (wc := [(h0, .inr (5, [.int (iZ (th)), .ref au, .ref al, .ref av, .ref ao, .ref ah, .ref ar, .ref ap, .int (iZ ((((t).length : Nat) : Int))), .int (bZ (ng = true)), .int (iZ (((me : Nat) : Int))), .long (lN (mf)), .int (iZ (((mb : Nat) : Int))), .int (iZ (((mm : Nat) : Int))), .long (lN (ms)), .int (iZ (mt)), .long (lN (mq)), .int (iZ (mz))])), (ap, .inl (kP, 1600, .inl fp))]) hD hS hA [0, 1] rfl) rfl rfl rfl hl.1 rfl (Nat.le_of_ble_eq_true rfl) d_Mo_hexadecimalFigure_27 ⟨Nat.le_of_ble_eq_true rfl, Nat.le_of_ble_eq_true rfl⟩) hP hD hK hS hA [0, 1] [] [] rfl rfl (by decide) (by decide) rfl (fun g27 H locs hpost hP hD hK hS => ?_)
    have hw27 : MPap g27 (t ++ [(chr dd)]) := hpost
    have hP : va_P D classes [(h0, .inr (5, [.int (iZ (th)), .ref au, .ref al, .ref av, .ref ao, .ref ah, .ref ar, .ref ap, .int (iZ ((((t ++ [(chr dd)]).length : Nat) : Int))), .int (bZ (ng = true)), .int (iZ (((me : Nat) : Int))), .long (lN (mf)), .int (iZ (((mb : Nat) : Int))), .int (iZ (((mm : Nat) : Int))), .long (lN (ms)), .int (iZ (mt)), .long (lN (mq)), .int (iZ (mz))])), (ap, .inl (kP, 1600, .inl g27))] H := hP
    have hD : va_D A [(h0, .inr (5, [.int (iZ (th)), .ref au, .ref al, .ref av, .ref ao, .ref ah, .ref ar, .ref ap, .int (iZ ((((t ++ [(chr dd)]).length : Nat) : Int))), .int (bZ (ng = true)), .int (iZ (((me : Nat) : Int))), .long (lN (mf)), .int (iZ (((mb : Nat) : Int))), .int (iZ (((mm : Nat) : Int))), .long (lN (ms)), .int (iZ (mt)), .long (lN (mq)), .int (iZ (mz))])), (ap, .inl (kP, 1600, .inl g27))] := hD
    have hK : va_K D classes [(kP, .int)] s := hK
    exact ew_v g27 hx hb hr hlocks d_Mo_hexadecimalFigure_30 (show MPap g27 (t ++ [chr dd]) from hw27) (hP.sub (ws' := [(h0, .inr (5, [.int (iZ (th)), .ref au, .ref al, .ref av, .ref ao, .ref ah, .ref ar, .ref ap, .int (iZ ((((t ++ [chr dd]).length : Nat) : Int))), .int (bZ (ng = true)), .int (iZ (((me : Nat) : Int))), .long (lN (mf)), .int (iZ (((mb : Nat) : Int))), .int (iZ (((mm : Nat) : Int))), .long (lN (ms)), .int (iZ (mt)), .long (lN (mq)), .int (iZ (mz))])), (ap, .inl (kP, 1600, .inl g27))]) [0, 1] rfl) (hD.sub (ws' := [(h0, .inr (5, [.int (iZ (th)), .ref au, .ref al, .ref av, .ref ao, .ref ah, .ref ar, .ref ap, .int (iZ ((((t ++ [chr dd]).length : Nat) : Int))), .int (bZ (ng = true)), .int (iZ (((me : Nat) : Int))), .long (lN (mf)), .int (iZ (((mb : Nat) : Int))), .int (iZ (((mm : Nat) : Int))), .long (lN (ms)), .int (iZ (mt)), .long (lN (mq)), .int (iZ (mz))])), (ap, .inl (kP, 1600, .inl g27))]) [0, 1] (by decide) rfl) (hK.sub (tys' := [(kP, .int)]) [0] rfl) hS (Nat.le_of_ble_eq_true rfl) (Nat.le_of_ble_eq_true rfl)
  · refine lv_ldc2 (v := (48)) hx hb hown (hts _ kw_357_) d_Mo_hexadecimalFigure_9 ?_
    refine nv_top (y := lN 48) (by decide) ?_
    refine lv_lload_n hx hb d_Mo_hexadecimalFigure_12 rfl (lv_at hl 1 rfl) ?_
    refine nv_ladd hx hb d_Mo_hexadecimalFigure_13 ?_
    refine nv_top (y := lN (chr dd)) (congrArg lN (by unfold chr; rw [if_pos (by omega)])) ?_
    refine lv_goto (tgt := 26) hx hb d_Mo_hexadecimalFigure_14 (by decide) ?_
    refine nv_l2i hx hb d_Mo_hexadecimalFigure_26 ?_
    refine kw_v (wr := []) (tr := []) (kr_V (C0 := R_Mo) (ci := 5) (i0 := 0) (As := [.int (iZ (((chr dd : Nat) : Int)))]) (rest := []) C0 (c_Mo_add l D Z _ h0 th au al av ao ah ar ap t ng me mf mb mm ms mt mq mz kP fp (chr dd) (by assumption) (chr_lt hd16) (hl8)) q_y_Mo_add kw_347_ kw_348_ kw_349_ kw_314_ hd_y_Mo_add rfl rfl ⟨Nat.le_of_ble_eq_true rfl, Nat.le_of_ble_eq_true rfl⟩ (hP.sub (ws' := [(h0, .inr (5, [.int (iZ (th)), .ref au, .ref al, .ref av, .ref ao, .ref ah, .ref ar, .ref ap, .int (iZ ((((t).length : Nat) : Int))), .int (bZ (ng = true)), .int (iZ (((me : Nat) : Int))), .long (lN (mf)), .int (iZ (((mb : Nat) : Int))), .int (iZ (((mm : Nat) : Int))), .long (lN (ms)), .int (iZ (mt)), .long (lN (mq)), .int (iZ (mz))])), (ap, .inl (kP, 1600, .inl fp))]) [0, 1] rfl) (hD.sub (ws' := [(h0, .inr (5, [.int (iZ (th)), .ref au, .ref al, .ref av, .ref ao, .ref ah, .ref ar, .ref ap, .int (iZ ((((t).length : Nat) : Int))), .int (bZ (ng = true)), .int (iZ (((me : Nat) : Int))), .long (lN (mf)), .int (iZ (((mb : Nat) : Int))), .int (iZ (((mm : Nat) : Int))), .long (lN (ms)), .int (iZ (mt)), .long (lN (mq)), .int (iZ (mz))])), (ap, .inl (kP, 1600, .inl fp))]) [0, 1] (by decide) rfl) (hK.sub (tys' := [(kP, .int)]) [0] rfl) hE hS (va_free (wc := [(h0, .inr (5, [.int (iZ (th)), .ref au, .ref al, .ref av, .ref ao, .ref ah, .ref ar, .ref ap, .int (iZ ((((t).length : Nat) : Int))), .int (bZ (ng = true)), .int (iZ (((me : Nat) : Int))), .long (lN (mf)), .int (iZ (((mb : Nat) : Int))), .int (iZ (((mm : Nat) : Int))), .long (lN (ms)), .int (iZ (mt)), .long (lN (mq)), .int (iZ (mz))])), (ap, .inl (kP, 1600, .inl fp))]) hD hS hA [0, 1] rfl) rfl rfl rfl hl.1 rfl (Nat.le_of_ble_eq_true rfl) d_Mo_hexadecimalFigure_27 ⟨Nat.le_of_ble_eq_true rfl, Nat.le_of_ble_eq_true rfl⟩) hP hD hK hS hA [0, 1] [] [] rfl rfl (by decide) (by decide) rfl (fun g27 H locs hpost hP hD hK hS => ?_)
    have hw27 : MPap g27 (t ++ [(chr dd)]) := hpost
    have hP : va_P D classes [(h0, .inr (5, [.int (iZ (th)), .ref au, .ref al, .ref av, .ref ao, .ref ah, .ref ar, .ref ap, .int (iZ ((((t ++ [(chr dd)]).length : Nat) : Int))), .int (bZ (ng = true)), .int (iZ (((me : Nat) : Int))), .long (lN (mf)), .int (iZ (((mb : Nat) : Int))), .int (iZ (((mm : Nat) : Int))), .long (lN (ms)), .int (iZ (mt)), .long (lN (mq)), .int (iZ (mz))])), (ap, .inl (kP, 1600, .inl g27))] H := hP
    have hD : va_D A [(h0, .inr (5, [.int (iZ (th)), .ref au, .ref al, .ref av, .ref ao, .ref ah, .ref ar, .ref ap, .int (iZ ((((t ++ [(chr dd)]).length : Nat) : Int))), .int (bZ (ng = true)), .int (iZ (((me : Nat) : Int))), .long (lN (mf)), .int (iZ (((mb : Nat) : Int))), .int (iZ (((mm : Nat) : Int))), .long (lN (ms)), .int (iZ (mt)), .long (lN (mq)), .int (iZ (mz))])), (ap, .inl (kP, 1600, .inl g27))] := hD
    have hK : va_K D classes [(kP, .int)] s := hK
    exact ew_v g27 hx hb hr hlocks d_Mo_hexadecimalFigure_30 (show MPap g27 (t ++ [chr dd]) from hw27) (hP.sub (ws' := [(h0, .inr (5, [.int (iZ (th)), .ref au, .ref al, .ref av, .ref ao, .ref ah, .ref ar, .ref ap, .int (iZ ((((t ++ [chr dd]).length : Nat) : Int))), .int (bZ (ng = true)), .int (iZ (((me : Nat) : Int))), .long (lN (mf)), .int (iZ (((mb : Nat) : Int))), .int (iZ (((mm : Nat) : Int))), .long (lN (ms)), .int (iZ (mt)), .long (lN (mq)), .int (iZ (mz))])), (ap, .inl (kP, 1600, .inl g27))]) [0, 1] rfl) (hD.sub (ws' := [(h0, .inr (5, [.int (iZ (th)), .ref au, .ref al, .ref av, .ref ao, .ref ah, .ref ar, .ref ap, .int (iZ ((((t ++ [chr dd]).length : Nat) : Int))), .int (bZ (ng = true)), .int (iZ (((me : Nat) : Int))), .long (lN (mf)), .int (iZ (((mb : Nat) : Int))), .int (iZ (((mm : Nat) : Int))), .long (lN (ms)), .int (iZ (mt)), .long (lN (mq)), .int (iZ (mz))])), (ap, .inl (kP, 1600, .inl g27))]) [0, 1] (by decide) rfl) (hK.sub (tys' := [(kP, .int)]) [0] rfl) hS (Nat.le_of_ble_eq_true rfl) (Nat.le_of_ble_eq_true rfl)
abbrev Qc_Mo_isMore (D : va_G) (h0 : Nat) (th : Int) (au : Nat) (al : Nat) (av : Nat) (ao : Nat) (ah : Nat) (ar : Nat) (ap : Nat) (t : List Nat) (ng : Bool) (me : Nat) (mf : Nat) (mb : Nat) (mm : Nat) (ms : Nat) (mt : Int) (mq : Nat) (mz : Int) (kV : ClassId) (fv : Nat → Int32) (v : Nat) (k : Nat) (w : Nat) (A : Nat → Prop) : Array Value → State → Outcome → State → Prop := vp_Si (fun r : Int32 => r = bZ (mrB v k w = true))
set_option maxHeartbeats 4000000 in
set_option maxRecDepth 100000 in
theorem lp_Mo_isMore_5 {p : Program} {l : Launch} {e : Env} {s : State} {m : MethodId} {args : Array Value} {below : List Frame} {meth : Method} {c : Code} {A : Nat → Prop} {D : va_G} {Z : Nat → Nat} (h0 : Nat) (th : Int) (au : Nat) (al : Nat) (av : Nat) (ao : Nat) (ah : Nat) (ar : Nat) (ap : Nat) (t : List Nat) (ng : Bool) (me : Nat) (mf : Nat) (mb : Nat) (mm : Nat) (ms : Nat) (mt : Int) (mq : Nat) (mz : Int) (kV : ClassId) (fv : Nat → Int32) (v : Nat) (k : Nat) (w : Nat) (hV : DigI fv v) (hk : k < 1404) (hw3 : w ≤ 3) (C0 : cxA p s m args meth c b_Mo_isMore 5 R_Mo (some .boolean)) (hA : ∀ q : Nat, s.heap.size ≤ q → A q) (hE : Ev Z A s s.heap) : ∀ (N : Nat) (i : Nat) (ls : Array Slot), k - i < N → (i ≤ k) → va_K D classes [(kV, .int)] s → va_P D classes [(h0, .inr (5, [.int (iZ (th)), .ref au, .ref al, .ref av, .ref ao, .ref ah, .ref ar, .ref ap, .int (iZ ((((t).length : Nat) : Int))), .int (bZ (ng = true)), .int (iZ (((me : Nat) : Int))), .long (lN (mf)), .int (iZ (((mb : Nat) : Int))), .int (iZ (((mm : Nat) : Int))), .long (lN (ms)), .int (iZ (mt)), .long (lN (mq)), .int (iZ (mz))])), (av, .inl (kV, 1404, .inl fv))] s.heap → va_D A [(h0, .inr (5, [.int (iZ (th)), .ref au, .ref al, .ref av, .ref ao, .ref ah, .ref ar, .ref ap, .int (iZ ((((t).length : Nat) : Int))), .int (bZ (ng = true)), .int (iZ (((me : Nat) : Int))), .long (lN (mf)), .int (iZ (((mb : Nat) : Int))), .int (iZ (((mm : Nat) : Int))), .long (lN (ms)), .int (iZ (mt)), .long (lN (mq)), .int (iZ (mz))])), (av, .inl (kV, 1404, .inl fv))] → va_S A s.heap s.heap [] → lv_has ls 5 [(0, .ref h0), (1, .int (iZ (((k : Nat) : Int)))), (2, .int (iZ (((w : Nat) : Int)))), (3, .int (bZ (decide (¬ v % 10 ^ i = 0) = true))), (4, .int (iZ (((i : Nat) : Int))))] → W p l e ({ frames := 1, cells := 0, slots := 0, locals := 22 } : Room) s m args below meth c s.heap [] 0 0 (MQ below (Qc_Mo_isMore D h0 th au al av ao ah ar ap t ng me mf mb mm ms mt mq mz kV fv v k w A) args s 0 0 (fun _ => False)) (F0 m 5 ls []) := by
  obtain ⟨hx, hb, hml, hown, hts, hr, hlocks⟩ := id C0
  intro N
  induction N with
  | zero => intro i ls hN; exact absurd hN (Nat.not_lt_zero _)
  | succ N ih =>
    intro i ls hN hi hK hP hD hS hl
    have hha := haF_in v k
    have hdk := dt_lt v k
    refine lv_iload hx hb d_Mo_isMore_5 (lv_at hl 4 rfl) ?_
    refine lv_iload_n hx hb d_Mo_isMore_7 rfl (lv_at hl 1 rfl) ?_
    refine zv_icmp_ge (tgt := 37) hx hb d_Mo_isMore_8 (by decide) (by omega) (by omega) (fun c8 => ?_) (fun c8 => ?_)
    · have ei : i = k := by omega
      refine lv_iload_n hx hb d_Mo_isMore_37 rfl (lv_at hl 3 rfl) ?_
      refine bv_if_eq (tgt := 45) hx hb d_Mo_isMore_38 (by decide) (fun c38 => ?_) (fun c38 => ?_)
      · have h00 : v % 10 ^ k = 0 := by rw [← ei]; simpa using c38
        refine lv_iconst (v := iZ (0)) hx hb d_Mo_isMore_45 rfl ?_
        exact er_z hx hb hr hlocks (by decide) d_Mo_isMore_46 (show iZ (0) = bZ (mrB v k w = true) from (bZ_f (by unfold mrB; rw [if_pos (by omega)]; decide)).symm)
      · have h00 : ¬ v % 10 ^ k = 0 := by rw [← ei]; simpa using c38
        refine lv_iload_n hx hb d_Mo_isMore_41 rfl (lv_at hl 2 rfl) ?_
        refine zv_if_ne (tgt := 47) hx hb d_Mo_isMore_42 (by decide) (by omega) (fun c42 => ?_) (fun c42 => ?_)
        · refine lv_aload_n hx hb d_Mo_isMore_47 rfl (lv_at hl 0 rfl) ?_
          refine lv_iload_n hx hb d_Mo_isMore_48 rfl (lv_at hl 1 rfl) ?_
          refine kg_i (kr_V (C0 := R_Mo) (ci := 5) (i0 := 0) (As := [.int (iZ (((k : Nat) : Int)))]) (rest := []) C0 (c_Mo_half l D Z _ h0 th au al av ao ah ar ap t ng me mf mb mm ms mt mq mz kV fv v k (by assumption) (by omega)) q_y_Mo_half kw_337_ kw_338_ kw_339_ kw_314_ hd_y_Mo_half rfl rfl ⟨Nat.le_of_ble_eq_true rfl, Nat.le_of_ble_eq_true rfl⟩ (hP.sub (ws' := [(h0, .inr (5, [.int (iZ (th)), .ref au, .ref al, .ref av, .ref ao, .ref ah, .ref ar, .ref ap, .int (iZ ((((t).length : Nat) : Int))), .int (bZ (ng = true)), .int (iZ (((me : Nat) : Int))), .long (lN (mf)), .int (iZ (((mb : Nat) : Int))), .int (iZ (((mm : Nat) : Int))), .long (lN (ms)), .int (iZ (mt)), .long (lN (mq)), .int (iZ (mz))])), (av, .inl (kV, 1404, .inl fv))]) [0, 1] rfl) (hD.sub (ws' := [(h0, .inr (5, [.int (iZ (th)), .ref au, .ref al, .ref av, .ref ao, .ref ah, .ref ar, .ref ap, .int (iZ ((((t).length : Nat) : Int))), .int (bZ (ng = true)), .int (iZ (((me : Nat) : Int))), .long (lN (mf)), .int (iZ (((mb : Nat) : Int))), .int (iZ (((mm : Nat) : Int))), .long (lN (ms)), .int (iZ (mt)), .long (lN (mq)), .int (iZ (mz))])), (av, .inl (kV, 1404, .inl fv))]) [0, 1] (by decide) rfl) (hK.sub (tys' := [(kV, .int)]) [0] rfl) hE hS (va_free (wc := [(h0, .inr (5, [.int (iZ (th)), .ref au, .ref al, .ref av, .ref ao, .ref ah, .ref ar, .ref ap, .int (iZ ((((t).length : Nat) : Int))), .int (bZ (ng = true)), .int (iZ (((me : Nat) : Int))), .long (lN (mf)), .int (iZ (((mb : Nat) : Int))), .int (iZ (((mm : Nat) : Int))), .long (lN (ms)), .int (iZ (mt)), .long (lN (mq)), .int (iZ (mz))])), (av, .inl (kV, 1404, .inl fv))]) hD hS hA [0, 1] rfl) rfl rfl rfl hl.1 rfl (Nat.le_of_ble_eq_true rfl) d_Mo_isMore_49 ⟨Nat.le_of_ble_eq_true rfl, Nat.le_of_ble_eq_true rfl⟩) (fun r hr1 => ?_)
          obtain rfl : r = iZ (haF v k) := hr1
          refine lv_istore (lv' := [(4, .int (iZ (haF v k))), (0, .ref h0), (1, .int (iZ (((k : Nat) : Int)))), (2, .int (iZ (((w : Nat) : Int)))), (3, .int (bZ (decide (¬ v % 10 ^ i = 0) = true)))]) hx hb d_Mo_isMore_52 hl (by decide) rfl (fun ls hl => ?_)
          refine lv_iload_n hx hb d_Mo_isMore_54 rfl (lv_at hl 3 rfl) ?_
          refine lv_iconst (v := iZ (1)) hx hb d_Mo_isMore_55 rfl ?_
          refine zv_icmp_eq (tgt := 86) hx hb d_Mo_isMore_56 (by decide) (by omega) (by omega) (fun c56 => ?_) (fun c56 => ?_)
          · refine lv_iconst (v := iZ (1)) hx hb d_Mo_isMore_86 rfl ?_
            refine lv_goto (tgt := 91) hx hb d_Mo_isMore_87 (by decide) ?_
            exact er_z hx hb hr hlocks (by decide) d_Mo_isMore_91 (show iZ (1) = bZ (mrB v k w = true) from (bZ_t (by unfold mrB; rw [if_neg (by omega)]; exact decide_eq_true (by omega))).symm)
          · refine lv_iload hx hb d_Mo_isMore_59 (lv_at hl 0 rfl) ?_
            refine zv_if_gt (tgt := 86) hx hb d_Mo_isMore_61 (by decide) (by omega) (fun c61 => ?_) (fun c61 => ?_)
            · refine lv_iconst (v := iZ (1)) hx hb d_Mo_isMore_86 rfl ?_
              refine lv_goto (tgt := 91) hx hb d_Mo_isMore_87 (by decide) ?_
              exact er_z hx hb hr hlocks (by decide) d_Mo_isMore_91 (show iZ (1) = bZ (mrB v k w = true) from (bZ_t (by unfold mrB; rw [if_neg (by omega)]; exact decide_eq_true (by omega))).symm)
            · refine lv_iload hx hb d_Mo_isMore_64 (lv_at hl 0 rfl) ?_
              refine zv_if_ne (tgt := 90) hx hb d_Mo_isMore_66 (by decide) (by omega) (fun c66 => ?_) (fun c66 => ?_)
              · refine lv_iconst (v := iZ (0)) hx hb d_Mo_isMore_90 rfl ?_
                exact er_z hx hb hr hlocks (by decide) d_Mo_isMore_91 (show iZ (0) = bZ (mrB v k w = true) from (bZ_f (by unfold mrB; rw [if_neg (by omega)]; exact fun q => absurd (of_decide_eq_true q) (by omega))).symm)
              · refine lv_iload_n hx hb d_Mo_isMore_69 rfl (lv_at hl 3 rfl) ?_
                refine lv_iconst (v := iZ (2)) hx hb d_Mo_isMore_70 rfl ?_
                refine zv_icmp_eq (tgt := 86) hx hb d_Mo_isMore_71 (by decide) (by omega) (by omega) (fun c71 => ?_) (fun c71 => ?_)
                · refine lv_iconst (v := iZ (1)) hx hb d_Mo_isMore_86 rfl ?_
                  refine lv_goto (tgt := 91) hx hb d_Mo_isMore_87 (by decide) ?_
                  exact er_z hx hb hr hlocks (by decide) d_Mo_isMore_91 (show iZ (1) = bZ (mrB v k w = true) from (bZ_t (by unfold mrB; rw [if_neg (by omega)]; exact decide_eq_true (by omega))).symm)
                · refine lv_aload_n hx hb d_Mo_isMore_74 rfl (lv_at hl 1 rfl) ?_
                  refine va_get (D := D) (ci := 5) (v := .ref av) (C := R_Mo) (T := F_Mo) (N := 18) hx hb hts i_Mo hown hK hP 0 rfl rfl 3 (by decide) (hts _ kw_299_) (fun _ h9 => h9) rfl d_Mo_isMore_75 ?_
                  refine lv_iload_n hx hb d_Mo_isMore_78 rfl (lv_at hl 2 rfl) ?_
                  refine zv_iald hx hb hK hP 1 0 rfl rfl k (rfl) (by omega) (by decide) d_Mo_isMore_79 ?_
                  refine zv_top (y := iZ (((dt v k : Nat) : Int))) (hV.1 _ (by omega)) ?_
                  refine lv_iconst (v := iZ (2)) hx hb d_Mo_isMore_80 rfl ?_
                  refine zv_irem hx hb d_Mo_isMore_81 (by omega) (by omega) ?_
                  refine lv_iconst (v := iZ (1)) hx hb d_Mo_isMore_82 rfl ?_
                  refine zv_icmp_ne (tgt := 90) hx hb d_Mo_isMore_83 (by decide) (by omega) (by omega) (fun c83 => ?_) (fun c83 => ?_)
                  · refine lv_iconst (v := iZ (0)) hx hb d_Mo_isMore_90 rfl ?_
                    exact er_z hx hb hr hlocks (by decide) d_Mo_isMore_91 (show iZ (0) = bZ (mrB v k w = true) from (bZ_f (by unfold mrB; rw [if_neg (by omega)]; exact fun q => absurd (of_decide_eq_true q) (by omega))).symm)
                  · refine lv_iconst (v := iZ (1)) hx hb d_Mo_isMore_86 rfl ?_
                    refine lv_goto (tgt := 91) hx hb d_Mo_isMore_87 (by decide) ?_
                    exact er_z hx hb hr hlocks (by decide) d_Mo_isMore_91 (show iZ (1) = bZ (mrB v k w = true) from (bZ_t (by unfold mrB; rw [if_neg (by omega)]; exact decide_eq_true (by omega))).symm)
        · refine lv_iconst (v := iZ (0)) hx hb d_Mo_isMore_45 rfl ?_
          exact er_z hx hb hr hlocks (by decide) d_Mo_isMore_46 (show iZ (0) = bZ (mrB v k w = true) from (bZ_f (by unfold mrB; rw [if_pos (by omega)]; decide)).symm)
    · have hdi := dt_lt v i
      have hmd := mod0_dt (v := v) (k := i)
      refine lv_iload_n hx hb d_Mo_isMore_11 rfl (lv_at hl 3 rfl) ?_
      refine bv_if_ne (tgt := 25) hx hb d_Mo_isMore_12 (by decide) (fun c12 => ?_) (fun c12 => ?_)
      · refine lv_iconst (v := iZ (1)) hx hb d_Mo_isMore_25 rfl ?_
        refine zv_top (y := bZ (decide (¬ v % 10 ^ (i + 1) = 0) = true)) ((bZ_t (by simp at *; omega)).symm) ?_
        refine lv_goto (tgt := 30) hx hb d_Mo_isMore_26 (by decide) ?_
        refine lv_istore_n (lv' := [(3, .int (bZ (decide (¬ v % 10 ^ (i + 1) = 0) = true))), (0, .ref h0), (1, .int (iZ (((k : Nat) : Int)))), (2, .int (iZ (((w : Nat) : Int)))), (4, .int (iZ (((i : Nat) : Int))))]) hx hb d_Mo_isMore_30 rfl hl (by decide) rfl (fun ls hl => ?_)
        refine lv_iinc (v := iZ (((i + 1 : Nat) : Int))) (lv' := [(4, .int (iZ (((i + 1 : Nat) : Int)))), (3, .int (bZ (decide (¬ v % 10 ^ (i + 1) = 0) = true))), (0, .ref h0), (1, .int (iZ (((k : Nat) : Int)))), (2, .int (iZ (((w : Nat) : Int))))]) hx hb d_Mo_isMore_31 hl (k := 4) rfl ((iZ_add _ _).trans (congrArg iZ (by omega))) (by decide) rfl (fun ls hl => ?_)
        refine lv_goto (tgt := 5) hx hb d_Mo_isMore_34 (by decide) ?_
        exact ih (i + 1) _ (by omega) (by omega) (hK.sub [0] rfl) (hP.sub [0, 1] rfl) (hD.sub [0, 1] (by decide) rfl) hS (lv_sub hl [2, 3, 4, 1, 0] rfl)
      · refine lv_aload_n hx hb d_Mo_isMore_15 rfl (lv_at hl 0 rfl) ?_
        refine va_get (D := D) (ci := 5) (v := .ref av) (C := R_Mo) (T := F_Mo) (N := 18) hx hb hts i_Mo hown hK hP 0 rfl rfl 3 (by decide) (hts _ kw_299_) (fun _ h9 => h9) rfl d_Mo_isMore_16 ?_
        refine lv_iload hx hb d_Mo_isMore_19 (lv_at hl 4 rfl) ?_
        refine zv_iald hx hb hK hP 1 0 rfl rfl i (rfl) (by omega) (by decide) d_Mo_isMore_21 ?_
        refine zv_top (y := iZ (((dt v i : Nat) : Int))) (hV.1 _ (by omega)) ?_
        refine zv_if_eq (tgt := 29) hx hb d_Mo_isMore_22 (by decide) (by omega) (fun c22 => ?_) (fun c22 => ?_)
        · refine lv_iconst (v := iZ (0)) hx hb d_Mo_isMore_29 rfl ?_
          refine zv_top (y := bZ (decide (¬ v % 10 ^ (i + 1) = 0) = true)) ((bZ_f (by simp at *; omega)).symm) ?_
          refine lv_istore_n (lv' := [(3, .int (bZ (decide (¬ v % 10 ^ (i + 1) = 0) = true))), (0, .ref h0), (1, .int (iZ (((k : Nat) : Int)))), (2, .int (iZ (((w : Nat) : Int)))), (4, .int (iZ (((i : Nat) : Int))))]) hx hb d_Mo_isMore_30 rfl hl (by decide) rfl (fun ls hl => ?_)
          refine lv_iinc (v := iZ (((i + 1 : Nat) : Int))) (lv' := [(4, .int (iZ (((i + 1 : Nat) : Int)))), (3, .int (bZ (decide (¬ v % 10 ^ (i + 1) = 0) = true))), (0, .ref h0), (1, .int (iZ (((k : Nat) : Int)))), (2, .int (iZ (((w : Nat) : Int))))]) hx hb d_Mo_isMore_31 hl (k := 4) rfl ((iZ_add _ _).trans (congrArg iZ (by omega))) (by decide) rfl (fun ls hl => ?_)
          refine lv_goto (tgt := 5) hx hb d_Mo_isMore_34 (by decide) ?_
          exact ih (i + 1) _ (by omega) (by omega) (hK.sub [0] rfl) (hP.sub [0, 1] rfl) (hD.sub [0, 1] (by decide) rfl) hS (lv_sub hl [2, 3, 4, 1, 0] rfl)
        · refine lv_iconst (v := iZ (1)) hx hb d_Mo_isMore_25 rfl ?_
          refine zv_top (y := bZ (decide (¬ v % 10 ^ (i + 1) = 0) = true)) ((bZ_t (by simp at *; omega)).symm) ?_
          refine lv_goto (tgt := 30) hx hb d_Mo_isMore_26 (by decide) ?_
          refine lv_istore_n (lv' := [(3, .int (bZ (decide (¬ v % 10 ^ (i + 1) = 0) = true))), (0, .ref h0), (1, .int (iZ (((k : Nat) : Int)))), (2, .int (iZ (((w : Nat) : Int)))), (4, .int (iZ (((i : Nat) : Int))))]) hx hb d_Mo_isMore_30 rfl hl (by decide) rfl (fun ls hl => ?_)
          refine lv_iinc (v := iZ (((i + 1 : Nat) : Int))) (lv' := [(4, .int (iZ (((i + 1 : Nat) : Int)))), (3, .int (bZ (decide (¬ v % 10 ^ (i + 1) = 0) = true))), (0, .ref h0), (1, .int (iZ (((k : Nat) : Int)))), (2, .int (iZ (((w : Nat) : Int))))]) hx hb d_Mo_isMore_31 hl (k := 4) rfl ((iZ_add _ _).trans (congrArg iZ (by omega))) (by decide) rfl (fun ls hl => ?_)
          refine lv_goto (tgt := 5) hx hb d_Mo_isMore_34 (by decide) ?_
          exact ih (i + 1) _ (by omega) (by omega) (hK.sub [0] rfl) (hP.sub [0, 1] rfl) (hD.sub [0, 1] (by decide) rfl) hS (lv_sub hl [2, 3, 4, 1, 0] rfl)
set_option maxHeartbeats 4000000 in
set_option maxRecDepth 100000 in
theorem c_Mo_isMore (l : Launch) (D : va_G) (Z : Nat → Nat) (hz9 : Nat) (h0 : Nat) (th : Int) (au : Nat) (al : Nat) (av : Nat) (ao : Nat) (ah : Nat) (ar : Nat) (ap : Nat) (t : List Nat) (ng : Bool) (me : Nat) (mf : Nat) (mb : Nat) (mm : Nat) (ms : Nat) (mt : Int) (mq : Nat) (mz : Int) (kV : ClassId) (fv : Nat → Int32) (v : Nat) (k : Nat) (w : Nat) (hV : DigI fv v) (hk : k < 1404) (hw3 : w ≤ 3) : Met l y_Mo_isMore (.code y_Mo_isMore b_Mo_isMore 5 (some .boolean) :: gT) ({ frames := 1, cells := 0, slots := 0, locals := 22 } : Room) (va_Pc [.ref h0, .int (iZ (((k : Nat) : Int))), .int (iZ (((w : Nat) : Int)))] (cpre D Z [(h0, .inr (5, [.int (iZ (th)), .ref au, .ref al, .ref av, .ref ao, .ref ah, .ref ar, .ref ap, .int (iZ ((((t).length : Nat) : Int))), .int (bZ (ng = true)), .int (iZ (((me : Nat) : Int))), .long (lN (mf)), .int (iZ (((mb : Nat) : Int))), .int (iZ (((mm : Nat) : Int))), .long (lN (ms)), .int (iZ (mt)), .long (lN (mq)), .int (iZ (mz))])), (av, .inl (kV, 1404, .inl fv))] [(kV, .int)] hz9)) (Qc_Mo_isMore D h0 th au al av ao ah ar ap t ng me mf mb mm ms mt mq mz kV fv v k w (va_A [(h0, .inr (5, [.int (iZ (th)), .ref au, .ref al, .ref av, .ref ao, .ref ah, .ref ar, .ref ap, .int (iZ ((((t).length : Nat) : Int))), .int (bZ (ng = true)), .int (iZ (((me : Nat) : Int))), .long (lN (mf)), .int (iZ (((mb : Nat) : Int))), .int (iZ (((mm : Nat) : Int))), .long (lN (ms)), .int (iZ (mt)), .long (lN (mq)), .int (iZ (mz))])), (av, .inl (kV, 1404, .inl fv))] hz9)) 0 0 (fun _ => False) := by
  refine met_go (Qf := Qc_Mo_isMore D h0 th au al av ao ah ar ap t ng me mf mb mm ms mt mq mz kV fv v k w) (ff := fun _ _ => False) (by decide) ?_
  intro p e s m below meth c A C0 hin hsz9 hA hE hK hP hD
  obtain ⟨hx, hb, hml, hown, hts, hr, hlocks⟩ := id C0
  have hS : va_S A s.heap s.heap [] := va_S.rf
  have hl := lv_entry [.ref h0, .int (iZ (((k : Nat) : Int))), .int (iZ (((w : Nat) : Int)))] (n := 5) (Nat.le_of_ble_eq_true rfl)
  rw [lg_entry_eq]
  generalize (lg_sl [.ref h0, .int (iZ (((k : Nat) : Int))), .int (iZ (((w : Nat) : Int)))] ++ List.replicate (5 - (lg_sl [.ref h0, .int (iZ (((k : Nat) : Int))), .int (iZ (((w : Nat) : Int)))]).length) Slot.unset).toArray = ls at hl ⊢
  have hl : lv_has ls 5 [(0, .ref h0), (1, .int (iZ (((k : Nat) : Int)))), (2, .int (iZ (((w : Nat) : Int))))] := hl
  refine lv_iconst (v := iZ (0)) hx hb d_Mo_isMore_0 rfl ?_
  refine zv_top (y := bZ (decide (¬ v % 10 ^ 0 = 0) = true)) ((bZ_f (by simp [Nat.mod_one])).symm) ?_
  refine lv_istore_n (lv' := [(3, .int (bZ (decide (¬ v % 10 ^ 0 = 0) = true))), (0, .ref h0), (1, .int (iZ (((k : Nat) : Int)))), (2, .int (iZ (((w : Nat) : Int))))]) hx hb d_Mo_isMore_1 rfl hl (by decide) rfl (fun ls hl => ?_)
  refine lv_iconst (v := iZ (0)) hx hb d_Mo_isMore_2 rfl ?_
  refine zv_top (y := iZ (((0 : Nat) : Int))) (rfl) ?_
  refine lv_istore (lv' := [(4, .int (iZ (((0 : Nat) : Int)))), (3, .int (bZ (decide (¬ v % 10 ^ 0 = 0) = true))), (0, .ref h0), (1, .int (iZ (((k : Nat) : Int)))), (2, .int (iZ (((w : Nat) : Int))))]) hx hb d_Mo_isMore_3 hl (by decide) rfl (fun ls hl => ?_)
  exact lp_Mo_isMore_5 h0 th au al av ao ah ar ap t ng me mf mb mm ms mt mq mz kV fv v k w hV hk hw3 C0 hA hE (k - 0 + 1) 0 _ (Nat.lt_succ_self _) (by omega) (hK.sub [0] rfl) (hP.sub [0, 1] rfl) (hD.sub [0, 1] (by decide) rfl) hS (lv_sub hl [2, 3, 4, 1, 0] rfl)
abbrev Qc_Mo_figureAt (D : va_G) (h0 : Nat) (th : Int) (au : Nat) (al : Nat) (av : Nat) (ao : Nat) (ah : Nat) (ar : Nat) (ap : Nat) (t : List Nat) (ng : Bool) (me : Nat) (mf : Nat) (mb : Nat) (mm : Nat) (ms : Nat) (mt : Int) (mq : Nat) (mz : Int) (kR : ClassId) (fr : Nat → Int32) (vr : Nat) (z : Int) (A : Nat → Prop) : Array Value → State → Outcome → State → Prop := vp_Si (fun r : Int32 => r = iZ (((figAt vr (z + 1080) : Nat) : Int)))
set_option maxHeartbeats 4000000 in
set_option maxRecDepth 100000 in
theorem c_Mo_figureAt (l : Launch) (D : va_G) (Z : Nat → Nat) (hz9 : Nat) (h0 : Nat) (th : Int) (au : Nat) (al : Nat) (av : Nat) (ao : Nat) (ah : Nat) (ar : Nat) (ap : Nat) (t : List Nat) (ng : Bool) (me : Nat) (mf : Nat) (mb : Nat) (mm : Nat) (ms : Nat) (mt : Int) (mq : Nat) (mz : Int) (kR : ClassId) (fr : Nat → Int32) (vr : Nat) (z : Int) (hR : DigI fr vr) (hz : -5000 < z ∧ z < 5000) : Met l y_Mo_figureAt (.code y_Mo_figureAt b_Mo_figureAt 3 (some .int) :: gT) ({ frames := 0, cells := 0, slots := 0, locals := 0 } : Room) (va_Pc [.ref h0, .int (iZ (z))] (cpre D Z [(h0, .inr (5, [.int (iZ (th)), .ref au, .ref al, .ref av, .ref ao, .ref ah, .ref ar, .ref ap, .int (iZ ((((t).length : Nat) : Int))), .int (bZ (ng = true)), .int (iZ (((me : Nat) : Int))), .long (lN (mf)), .int (iZ (((mb : Nat) : Int))), .int (iZ (((mm : Nat) : Int))), .long (lN (ms)), .int (iZ (mt)), .long (lN (mq)), .int (iZ (mz))])), (ar, .inl (kR, 1404, .inl fr))] [(kR, .int)] hz9)) (Qc_Mo_figureAt D h0 th au al av ao ah ar ap t ng me mf mb mm ms mt mq mz kR fr vr z (va_A [(h0, .inr (5, [.int (iZ (th)), .ref au, .ref al, .ref av, .ref ao, .ref ah, .ref ar, .ref ap, .int (iZ ((((t).length : Nat) : Int))), .int (bZ (ng = true)), .int (iZ (((me : Nat) : Int))), .long (lN (mf)), .int (iZ (((mb : Nat) : Int))), .int (iZ (((mm : Nat) : Int))), .long (lN (ms)), .int (iZ (mt)), .long (lN (mq)), .int (iZ (mz))])), (ar, .inl (kR, 1404, .inl fr))] hz9)) 0 0 (fun _ => False) := by
  refine met_go (Qf := Qc_Mo_figureAt D h0 th au al av ao ah ar ap t ng me mf mb mm ms mt mq mz kR fr vr z) (ff := fun _ _ => False) (by decide) ?_
  intro p e s m below meth c A C0 hin hsz9 hA hE hK hP hD
  obtain ⟨hx, hb, hml, hown, hts, hr, hlocks⟩ := id C0
  have hS : va_S A s.heap s.heap [] := va_S.rf
  have hl := lv_entry [.ref h0, .int (iZ (z))] (n := 3) (Nat.le_of_ble_eq_true rfl)
  rw [lg_entry_eq]
  generalize (lg_sl [.ref h0, .int (iZ (z))] ++ List.replicate (3 - (lg_sl [.ref h0, .int (iZ (z))]).length) Slot.unset).toArray = ls at hl ⊢
  have hl : lv_has ls 3 [(0, .ref h0), (1, .int (iZ (z)))] := hl
  refine lv_iload_n hx hb d_Mo_figureAt_0 rfl (lv_at hl 1 rfl) ?_
  refine lv_sipush (v := iZ (1080)) hx hb d_Mo_figureAt_1 (by decide) ?_
  refine zv_iadd hx hb d_Mo_figureAt_4 ?_
  refine lv_istore_n (lv' := [(2, .int (iZ (z + 1080))), (0, .ref h0), (1, .int (iZ (z)))]) hx hb d_Mo_figureAt_5 rfl hl (by decide) rfl (fun ls hl => ?_)
  refine lv_iload_n hx hb d_Mo_figureAt_6 rfl (lv_at hl 0 rfl) ?_
  refine zv_if_lt (tgt := 17) hx hb d_Mo_figureAt_7 (by decide) (by omega) (fun c7 => ?_) (fun c7 => ?_)
  · refine lv_iconst (v := iZ (0)) hx hb d_Mo_figureAt_17 rfl ?_
    refine lv_goto (tgt := 27) hx hb d_Mo_figureAt_18 (by decide) ?_
    exact er_i hx hb hr hlocks d_Mo_figureAt_27 (show iZ (0) = iZ (((figAt vr (z + 1080) : Nat) : Int)) from congrArg iZ (by first | (rw [figAt_neg (by omega)]; rfl) | (rw [figAt_big hR.2 (by omega)]; rfl)))
  · refine lv_iload_n hx hb d_Mo_figureAt_10 rfl (lv_at hl 0 rfl) ?_
    refine lv_sipush (v := iZ (1404)) hx hb d_Mo_figureAt_11 (by decide) ?_
    refine zv_icmp_lt (tgt := 21) hx hb d_Mo_figureAt_14 (by decide) (by omega) (by omega) (fun c14 => ?_) (fun c14 => ?_)
    · refine lv_aload_n hx hb d_Mo_figureAt_21 rfl (lv_at hl 1 rfl) ?_
      refine va_get (D := D) (ci := 5) (v := .ref ar) (C := R_Mo) (T := F_Mo) (N := 18) hx hb hts i_Mo hown hK hP 0 rfl rfl 6 (by decide) (hts _ kw_302_) (fun _ h9 => h9) rfl d_Mo_figureAt_22 ?_
      refine lv_iload_n hx hb d_Mo_figureAt_25 rfl (lv_at hl 0 rfl) ?_
      refine zv_iald hx hb hK hP 1 0 rfl rfl ((z + 1080).toNat) (by omega) (by omega) (by decide) d_Mo_figureAt_26 ?_
      refine zv_top (y := iZ (((figAt vr (z + 1080) : Nat) : Int))) ((hR.1 _ (by omega)).trans (congrArg iZ (by rw [figAt_dt (j := (z + 1080).toNat) (by omega)]))) ?_
      exact er_i hx hb hr hlocks d_Mo_figureAt_27 (show iZ (((figAt vr (z + 1080) : Nat) : Int)) = iZ (((figAt vr (z + 1080) : Nat) : Int)) from rfl)
    · refine lv_iconst (v := iZ (0)) hx hb d_Mo_figureAt_17 rfl ?_
      refine lv_goto (tgt := 27) hx hb d_Mo_figureAt_18 (by decide) ?_
      exact er_i hx hb hr hlocks d_Mo_figureAt_27 (show iZ (0) = iZ (((figAt vr (z + 1080) : Nat) : Int)) from congrArg iZ (by first | (rw [figAt_neg (by omega)]; rfl) | (rw [figAt_big hR.2 (by omega)]; rfl)))
