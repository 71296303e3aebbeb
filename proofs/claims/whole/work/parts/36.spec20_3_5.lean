theorem kw_305_ : Cond.fieldLink R_Mo 55 "FloatWriterModel" "twos" "I" ∈ gT := gT_in 644 (by decide +kernel) (by decide +kernel)
theorem kw_306_ : Cond.fieldLink R_Mo 52 "FloatWriterModel" "size" "J" ∈ gT := gT_in 643 (by decide +kernel) (by decide +kernel)
theorem kw_307_ : Cond.fieldLink R_Mo 45 "FloatWriterModel" "exponent" "I" ∈ gT := gT_in 639 (by decide +kernel) (by decide +kernel)
theorem kw_308_ : Cond.fieldLink R_Mo 41 "FloatWriterModel" "negative" "Z" ∈ gT := gT_in 638 (by decide +kernel) (by decide +kernel)
theorem kw_309_ : Cond.fieldLink R_Mo 35 "FloatWriterModel" "fractionBits" "I" ∈ gT := gT_in 641 (by decide +kernel) (by decide +kernel)
theorem kw_310_ : Cond.fieldLink R_Mo 38 "FloatWriterModel" "most" "I" ∈ gT := gT_in 642 (by decide +kernel) (by decide +kernel)
theorem kw_311_ : Cond.fieldLink R_Mo 48 "FloatWriterModel" "fraction" "J" ∈ gT := gT_in 640 (by decide +kernel) (by decide +kernel)
theorem d_Mo_open_0 : decode b_Mo_open 0 = .ok (.aload_n 0, 1) := by decide +kernel
theorem d_Mo_open_1 : decode b_Mo_open 1 = .ok (.iload_n 3, 1) := by decide +kernel
theorem d_Mo_open_2 : decode b_Mo_open 2 = .ok (.ifCond .eq 8, 3) := by decide +kernel
theorem d_Mo_open_5 : decode b_Mo_open 5 = .ok (.bipush 23, 2) := by decide +kernel
theorem d_Mo_open_7 : decode b_Mo_open 7 = .ok (.goto 5, 3) := by decide +kernel
theorem d_Mo_open_10 : decode b_Mo_open 10 = .ok (.bipush 52, 2) := by decide +kernel
theorem d_Mo_open_12 : decode b_Mo_open 12 = .ok (.putfield 35, 3) := by decide +kernel
theorem d_Mo_open_15 : decode b_Mo_open 15 = .ok (.aload_n 0, 1) := by decide +kernel
theorem d_Mo_open_16 : decode b_Mo_open 16 = .ok (.iload_n 3, 1) := by decide +kernel
theorem d_Mo_open_17 : decode b_Mo_open 17 = .ok (.ifCond .eq 9, 3) := by decide +kernel
theorem d_Mo_open_20 : decode b_Mo_open 20 = .ok (.sipush 255, 3) := by decide +kernel
theorem d_Mo_open_23 : decode b_Mo_open 23 = .ok (.goto 6, 3) := by decide +kernel
theorem d_Mo_open_26 : decode b_Mo_open 26 = .ok (.sipush 2047, 3) := by decide +kernel
theorem d_Mo_open_29 : decode b_Mo_open 29 = .ok (.putfield 38, 3) := by decide +kernel
theorem d_Mo_open_32 : decode b_Mo_open 32 = .ok (.aload_n 0, 1) := by decide +kernel
theorem d_Mo_open_33 : decode b_Mo_open 33 = .ok (.lload_n 1, 1) := by decide +kernel
theorem d_Mo_open_34 : decode b_Mo_open 34 = .ok (.iload_n 3, 1) := by decide +kernel
theorem d_Mo_open_35 : decode b_Mo_open 35 = .ok (.ifCond .eq 8, 3) := by decide +kernel
theorem d_Mo_open_38 : decode b_Mo_open 38 = .ok (.bipush 31, 2) := by decide +kernel
theorem d_Mo_open_40 : decode b_Mo_open 40 = .ok (.goto 5, 3) := by decide +kernel
theorem d_Mo_open_43 : decode b_Mo_open 43 = .ok (.bipush 63, 2) := by decide +kernel
theorem d_Mo_open_45 : decode b_Mo_open 45 = .ok (.lushr, 1) := by decide +kernel
theorem d_Mo_open_46 : decode b_Mo_open 46 = .ok (.lconst 1, 1) := by decide +kernel
theorem d_Mo_open_47 : decode b_Mo_open 47 = .ok (.land, 1) := by decide +kernel
theorem d_Mo_open_48 : decode b_Mo_open 48 = .ok (.lconst 1, 1) := by decide +kernel
theorem d_Mo_open_49 : decode b_Mo_open 49 = .ok (.lcmp, 1) := by decide +kernel
theorem d_Mo_open_50 : decode b_Mo_open 50 = .ok (.ifCond .ne 7, 3) := by decide +kernel
theorem d_Mo_open_53 : decode b_Mo_open 53 = .ok (.iconst 1, 1) := by decide +kernel
theorem d_Mo_open_54 : decode b_Mo_open 54 = .ok (.goto 4, 3) := by decide +kernel
theorem d_Mo_open_57 : decode b_Mo_open 57 = .ok (.iconst 0, 1) := by decide +kernel
theorem d_Mo_open_58 : decode b_Mo_open 58 = .ok (.putfield 41, 3) := by decide +kernel
theorem d_Mo_open_61 : decode b_Mo_open 61 = .ok (.aload_n 0, 1) := by decide +kernel
theorem d_Mo_open_62 : decode b_Mo_open 62 = .ok (.lload_n 1, 1) := by decide +kernel
theorem d_Mo_open_63 : decode b_Mo_open 63 = .ok (.aload_n 0, 1) := by decide +kernel
theorem d_Mo_open_64 : decode b_Mo_open 64 = .ok (.getfield 35, 3) := by decide +kernel
theorem d_Mo_open_67 : decode b_Mo_open 67 = .ok (.lushr, 1) := by decide +kernel
theorem d_Mo_open_68 : decode b_Mo_open 68 = .ok (.l2i, 1) := by decide +kernel
theorem d_Mo_open_69 : decode b_Mo_open 69 = .ok (.aload_n 0, 1) := by decide +kernel
theorem d_Mo_open_70 : decode b_Mo_open 70 = .ok (.getfield 38, 3) := by decide +kernel
theorem d_Mo_open_73 : decode b_Mo_open 73 = .ok (.iand, 1) := by decide +kernel
theorem d_Mo_open_74 : decode b_Mo_open 74 = .ok (.putfield 45, 3) := by decide +kernel
theorem d_Mo_open_77 : decode b_Mo_open 77 = .ok (.aload_n 0, 1) := by decide +kernel
theorem d_Mo_open_78 : decode b_Mo_open 78 = .ok (.lload_n 1, 1) := by decide +kernel
theorem d_Mo_open_79 : decode b_Mo_open 79 = .ok (.lconst 1, 1) := by decide +kernel
theorem d_Mo_open_80 : decode b_Mo_open 80 = .ok (.aload_n 0, 1) := by decide +kernel
theorem d_Mo_open_81 : decode b_Mo_open 81 = .ok (.getfield 35, 3) := by decide +kernel
theorem d_Mo_open_84 : decode b_Mo_open 84 = .ok (.lshl, 1) := by decide +kernel
theorem d_Mo_open_85 : decode b_Mo_open 85 = .ok (.lconst 1, 1) := by decide +kernel
theorem d_Mo_open_86 : decode b_Mo_open 86 = .ok (.lsub, 1) := by decide +kernel
theorem d_Mo_open_87 : decode b_Mo_open 87 = .ok (.land, 1) := by decide +kernel
theorem d_Mo_open_88 : decode b_Mo_open 88 = .ok (.putfield 48, 3) := by decide +kernel
theorem d_Mo_open_91 : decode b_Mo_open 91 = .ok (.aload_n 0, 1) := by decide +kernel
theorem d_Mo_open_92 : decode b_Mo_open 92 = .ok (.aload_n 0, 1) := by decide +kernel
theorem d_Mo_open_93 : decode b_Mo_open 93 = .ok (.getfield 45, 3) := by decide +kernel
theorem d_Mo_open_96 : decode b_Mo_open 96 = .ok (.ifCond .ne 10, 3) := by decide +kernel
theorem d_Mo_open_99 : decode b_Mo_open 99 = .ok (.aload_n 0, 1) := by decide +kernel
theorem d_Mo_open_100 : decode b_Mo_open 100 = .ok (.getfield 48, 3) := by decide +kernel
theorem d_Mo_open_103 : decode b_Mo_open 103 = .ok (.goto 14, 3) := by decide +kernel
theorem d_Mo_open_106 : decode b_Mo_open 106 = .ok (.aload_n 0, 1) := by decide +kernel
theorem d_Mo_open_107 : decode b_Mo_open 107 = .ok (.getfield 48, 3) := by decide +kernel
theorem d_Mo_open_110 : decode b_Mo_open 110 = .ok (.lconst 1, 1) := by decide +kernel
theorem d_Mo_open_111 : decode b_Mo_open 111 = .ok (.aload_n 0, 1) := by decide +kernel
theorem d_Mo_open_112 : decode b_Mo_open 112 = .ok (.getfield 35, 3) := by decide +kernel
theorem d_Mo_open_115 : decode b_Mo_open 115 = .ok (.lshl, 1) := by decide +kernel
theorem d_Mo_open_116 : decode b_Mo_open 116 = .ok (.ladd, 1) := by decide +kernel
theorem d_Mo_open_117 : decode b_Mo_open 117 = .ok (.putfield 52, 3) := by decide +kernel
theorem d_Mo_open_120 : decode b_Mo_open 120 = .ok (.aload_n 0, 1) := by decide +kernel
theorem d_Mo_open_121 : decode b_Mo_open 121 = .ok (.aload_n 0, 1) := by decide +kernel
theorem d_Mo_open_122 : decode b_Mo_open 122 = .ok (.getfield 45, 3) := by decide +kernel
theorem d_Mo_open_125 : decode b_Mo_open 125 = .ok (.ifCond .ne 7, 3) := by decide +kernel
theorem d_Mo_open_128 : decode b_Mo_open 128 = .ok (.iconst 1, 1) := by decide +kernel
theorem d_Mo_open_129 : decode b_Mo_open 129 = .ok (.goto 7, 3) := by decide +kernel
theorem d_Mo_open_132 : decode b_Mo_open 132 = .ok (.aload_n 0, 1) := by decide +kernel
theorem d_Mo_open_133 : decode b_Mo_open 133 = .ok (.getfield 45, 3) := by decide +kernel
theorem d_Mo_open_136 : decode b_Mo_open 136 = .ok (.iload_n 3, 1) := by decide +kernel
theorem d_Mo_open_137 : decode b_Mo_open 137 = .ok (.ifCond .eq 9, 3) := by decide +kernel
theorem d_Mo_open_140 : decode b_Mo_open 140 = .ok (.sipush 150, 3) := by decide +kernel
theorem d_Mo_open_143 : decode b_Mo_open 143 = .ok (.goto 6, 3) := by decide +kernel
theorem d_Mo_open_146 : decode b_Mo_open 146 = .ok (.sipush 1075, 3) := by decide +kernel
theorem d_Mo_open_149 : decode b_Mo_open 149 = .ok (.isub, 1) := by decide +kernel
theorem d_Mo_open_150 : decode b_Mo_open 150 = .ok (.putfield 55, 3) := by decide +kernel
theorem d_Mo_open_153 : decode b_Mo_open 153 = .ok (.return_, 1) := by decide +kernel
theorem d_Mo_isFinite_0 : decode b_Mo_isFinite 0 = .ok (.aload_n 0, 1) := by decide +kernel
theorem d_Mo_isFinite_1 : decode b_Mo_isFinite 1 = .ok (.getfield 45, 3) := by decide +kernel
theorem d_Mo_isFinite_4 : decode b_Mo_isFinite 4 = .ok (.aload_n 0, 1) := by decide +kernel
theorem d_Mo_isFinite_5 : decode b_Mo_isFinite 5 = .ok (.getfield 38, 3) := by decide +kernel
theorem d_Mo_isFinite_8 : decode b_Mo_isFinite 8 = .ok (.if_icmp .ge 7, 3) := by decide +kernel
theorem d_Mo_isFinite_11 : decode b_Mo_isFinite 11 = .ok (.iconst 1, 1) := by decide +kernel
theorem d_Mo_isFinite_12 : decode b_Mo_isFinite 12 = .ok (.goto 4, 3) := by decide +kernel
theorem d_Mo_isFinite_15 : decode b_Mo_isFinite 15 = .ok (.iconst 0, 1) := by decide +kernel
theorem d_Mo_isFinite_16 : decode b_Mo_isFinite 16 = .ok (.ireturn, 1) := by decide +kernel
abbrev Qc_Mo_open (D : va_G) (h0 : Nat) (th : Int) (au : Nat) (al : Nat) (av : Nat) (ao : Nat) (ah : Nat) (ar : Nat) (ap : Nat) (t : List Nat) (ng : Bool) (me : Nat) (mf : Nat) (mb : Nat) (mm : Nat) (ms : Nat) (mt : Int) (mq : Nat) (mz : Int) (b : Nat) (nw : Bool) (A : Nat → Prop) : Array Value → State → Outcome → State → Prop := va_Qv (fun u : Unit => True) (fun (u : Unit) t9 => cpost D A [(h0, .inr (5, [.int (iZ (th)), .ref au, .ref al, .ref av, .ref ao, .ref ah, .ref ar, .ref ap, .int (iZ ((((t).length : Nat) : Int))), .int (bZ (fN b nw = true)), .int (iZ (((fE b nw : Nat) : Int))), .long (lN (fF b nw)), .int (iZ (((fP nw : Nat) : Int))), .int (iZ (((fMo nw : Nat) : Int))), .long (lN (fM b nw)), .int (iZ (fW b nw)), .long (lN (mq)), .int (iZ (mz))]))] [] t9) A
set_option maxHeartbeats 4000000 in
set_option maxRecDepth 100000 in
theorem lp_Mo_open_149 {p : Program} {l : Launch} {e : Env} {s : State} {m : MethodId} {args : Array Value} {below : List Frame} {meth : Method} {c : Code} {A : Nat → Prop} {D : va_G} {Z : Nat → Nat} (h0 : Nat) (th : Int) (au : Nat) (al : Nat) (av : Nat) (ao : Nat) (ah : Nat) (ar : Nat) (ap : Nat) (t : List Nat) (ng : Bool) (me : Nat) (mf : Nat) (mb : Nat) (mm : Nat) (ms : Nat) (mt : Int) (mq : Nat) (mz : Int) (b : Nat) (nw : Bool) (hb9 : b < 18446744073709551616) (hok : nw = true → b < 4294967296) (C0 : cxA p s m args meth c b_Mo_open 4 R_Mo none) (hA : ∀ q : Nat, s.heap.size ≤ q → A q) (hE : Ev Z A s s.heap) : ∀ (N : Nat)  (H : Heap) (locs : List Loc) (ls : Array Slot), 0 < N → va_K D classes [] s → va_P D classes [(h0, .inr (5, [.int (iZ (th)), .ref au, .ref al, .ref av, .ref ao, .ref ah, .ref ar, .ref ap, .int (iZ ((((t).length : Nat) : Int))), .int (bZ (fN b nw = true)), .int (iZ (((fE b nw : Nat) : Int))), .long (lN (fF b nw)), .int (iZ (((fP nw : Nat) : Int))), .int (iZ (((fMo nw : Nat) : Int))), .long (lN (fM b nw)), .int (iZ (mt)), .long (lN (mq)), .int (iZ (mz))]))] H → va_D A [(h0, .inr (5, [.int (iZ (th)), .ref au, .ref al, .ref av, .ref ao, .ref ah, .ref ar, .ref ap, .int (iZ ((((t).length : Nat) : Int))), .int (bZ (fN b nw = true)), .int (iZ (((fE b nw : Nat) : Int))), .long (lN (fF b nw)), .int (iZ (((fP nw : Nat) : Int))), .int (iZ (((fMo nw : Nat) : Int))), .long (lN (fM b nw)), .int (iZ (mt)), .long (lN (mq)), .int (iZ (mz))]))] → va_S A s.heap H locs → lv_has ls 4 [(0, .ref h0), (1, .long (lN (b))), (3, .int (bZ (nw = true)))] → W p l e ({ frames := 0, cells := 0, slots := 0, locals := 0 } : Room) s m args below meth c H locs 0 0 (MQ below (Qc_Mo_open D h0 th au al av ao ah ar ap t ng me mf mb mm ms mt mq mz b nw A) args s 0 0 A) (F0 m 149 ls [.int (iZ (fB nw)), .int (iZ (max ((fE b nw : Nat) : Int) 1)), .ref h0]) := by
  obtain ⟨hx, hb, hml, hown, hts, hr, hlocks⟩ := id C0
  intro N
  induction N with
  | zero => intro  H locs ls hN; exact absurd hN (Nat.not_lt_zero _)
  | succ N ih =>
    intro  H locs ls hN  hK hP hD hS hl
    have hfp := fP_cases nw
    have hpp := fP_pow nw
    have hfe := fE_lt b nw
    have hff := fF_lt b nw
    refine zv_isub hx hb d_Mo_open_149 ?_
    refine zv_top (y := iZ (fW b nw)) (rfl) ?_
    refine va_put (D := D) (ci := 5) (v := .int (iZ (fW b nw))) (ty := .int) (C := R_Mo) (T := F_Mo) (N := 18) hx hb hts i_Mo t_Mo t_Mo_ok n_Mo hown hK hP hD hS 0 rfl rfl 15 (by decide) (hts _ kw_305_) (fun _ h9 => h9) rfl (by decide +kernel) rfl rfl (Nat.le_of_ble_eq_true rfl) d_Mo_open_150 (fun H locs hP hD hS => ?_)
    have hP : va_P D classes [(h0, .inr (5, [.int (iZ (th)), .ref au, .ref al, .ref av, .ref ao, .ref ah, .ref ar, .ref ap, .int (iZ ((((t).length : Nat) : Int))), .int (bZ (fN b nw = true)), .int (iZ (((fE b nw : Nat) : Int))), .long (lN (fF b nw)), .int (iZ (((fP nw : Nat) : Int))), .int (iZ (((fMo nw : Nat) : Int))), .long (lN (fM b nw)), .int (iZ (fW b nw)), .long (lN (mq)), .int (iZ (mz))]))] H := hP
    have hD : va_D A [(h0, .inr (5, [.int (iZ (th)), .ref au, .ref al, .ref av, .ref ao, .ref ah, .ref ar, .ref ap, .int (iZ ((((t).length : Nat) : Int))), .int (bZ (fN b nw = true)), .int (iZ (((fE b nw : Nat) : Int))), .long (lN (fF b nw)), .int (iZ (((fP nw : Nat) : Int))), .int (iZ (((fMo nw : Nat) : Int))), .long (lN (fM b nw)), .int (iZ (fW b nw)), .long (lN (mq)), .int (iZ (mz))]))] := hD
    exact ew_v () hx hb hr hlocks d_Mo_open_153 (trivial) (hP.sub (ws' := [(h0, .inr (5, [.int (iZ (th)), .ref au, .ref al, .ref av, .ref ao, .ref ah, .ref ar, .ref ap, .int (iZ ((((t).length : Nat) : Int))), .int (bZ (fN b nw = true)), .int (iZ (((fE b nw : Nat) : Int))), .long (lN (fF b nw)), .int (iZ (((fP nw : Nat) : Int))), .int (iZ (((fMo nw : Nat) : Int))), .long (lN (fM b nw)), .int (iZ (fW b nw)), .long (lN (mq)), .int (iZ (mz))]))]) [0] rfl) (hD.sub (ws' := [(h0, .inr (5, [.int (iZ (th)), .ref au, .ref al, .ref av, .ref ao, .ref ah, .ref ar, .ref ap, .int (iZ ((((t).length : Nat) : Int))), .int (bZ (fN b nw = true)), .int (iZ (((fE b nw : Nat) : Int))), .long (lN (fF b nw)), .int (iZ (((fP nw : Nat) : Int))), .int (iZ (((fMo nw : Nat) : Int))), .long (lN (fM b nw)), .int (iZ (fW b nw)), .long (lN (mq)), .int (iZ (mz))]))]) [0] (by decide) rfl) (hK.sub (tys' := []) [] rfl) hS (Nat.le_of_ble_eq_true rfl) (Nat.le_of_ble_eq_true rfl)
set_option maxHeartbeats 4000000 in
set_option maxRecDepth 100000 in
theorem lp_Mo_open_136 {p : Program} {l : Launch} {e : Env} {s : State} {m : MethodId} {args : Array Value} {below : List Frame} {meth : Method} {c : Code} {A : Nat → Prop} {D : va_G} {Z : Nat → Nat} (h0 : Nat) (th : Int) (au : Nat) (al : Nat) (av : Nat) (ao : Nat) (ah : Nat) (ar : Nat) (ap : Nat) (t : List Nat) (ng : Bool) (me : Nat) (mf : Nat) (mb : Nat) (mm : Nat) (ms : Nat) (mt : Int) (mq : Nat) (mz : Int) (b : Nat) (nw : Bool) (hb9 : b < 18446744073709551616) (hok : nw = true → b < 4294967296) (C0 : cxA p s m args meth c b_Mo_open 4 R_Mo none) (hA : ∀ q : Nat, s.heap.size ≤ q → A q) (hE : Ev Z A s s.heap) : ∀ (N : Nat)  (H : Heap) (locs : List Loc) (ls : Array Slot), 0 < N → va_K D classes [] s → va_P D classes [(h0, .inr (5, [.int (iZ (th)), .ref au, .ref al, .ref av, .ref ao, .ref ah, .ref ar, .ref ap, .int (iZ ((((t).length : Nat) : Int))), .int (bZ (fN b nw = true)), .int (iZ (((fE b nw : Nat) : Int))), .long (lN (fF b nw)), .int (iZ (((fP nw : Nat) : Int))), .int (iZ (((fMo nw : Nat) : Int))), .long (lN (fM b nw)), .int (iZ (mt)), .long (lN (mq)), .int (iZ (mz))]))] H → va_D A [(h0, .inr (5, [.int (iZ (th)), .ref au, .ref al, .ref av, .ref ao, .ref ah, .ref ar, .ref ap, .int (iZ ((((t).length : Nat) : Int))), .int (bZ (fN b nw = true)), .int (iZ (((fE b nw : Nat) : Int))), .long (lN (fF b nw)), .int (iZ (((fP nw : Nat) : Int))), .int (iZ (((fMo nw : Nat) : Int))), .long (lN (fM b nw)), .int (iZ (mt)), .long (lN (mq)), .int (iZ (mz))]))] → va_S A s.heap H locs → lv_has ls 4 [(0, .ref h0), (1, .long (lN (b))), (3, .int (bZ (nw = true)))] → W p l e ({ frames := 0, cells := 0, slots := 0, locals := 0 } : Room) s m args below meth c H locs 0 0 (MQ below (Qc_Mo_open D h0 th au al av ao ah ar ap t ng me mf mb mm ms mt mq mz b nw A) args s 0 0 A) (F0 m 136 ls [.int (iZ (max ((fE b nw : Nat) : Int) 1)), .ref h0]) := by
  obtain ⟨hx, hb, hml, hown, hts, hr, hlocks⟩ := id C0
  intro N
  induction N with
  | zero => intro  H locs ls hN; exact absurd hN (Nat.not_lt_zero _)
  | succ N ih =>
    intro  H locs ls hN  hK hP hD hS hl
    have hfp := fP_cases nw
    have hpp := fP_pow nw
    have hfe := fE_lt b nw
    have hff := fF_lt b nw
    refine lv_iload_n hx hb d_Mo_open_136 rfl (lv_at hl 2 rfl) ?_
    refine bv_if_eq (tgt := 146) hx hb d_Mo_open_137 (by decide) (fun c137 => ?_) (fun c137 => ?_)
    · refine lv_sipush (v := iZ (1075)) hx hb d_Mo_open_146 (by decide) ?_
      refine zv_top (y := iZ (fB nw)) (congrArg iZ (by unfold fB; rw [if_neg c137])) ?_
      exact lp_Mo_open_149 h0 th au al av ao ah ar ap t ng me mf mb mm ms mt mq mz b nw hb9 hok C0 hA hE (0 + 1)  _ _ _ (Nat.lt_succ_self _)  (hK.sub [] rfl) (hP.sub [0] rfl) (hD.sub [0] (by decide) rfl) hS (lv_sub hl [0, 1, 2] rfl)
    · refine lv_sipush (v := iZ (150)) hx hb d_Mo_open_140 (by decide) ?_
      refine zv_top (y := iZ (fB nw)) (congrArg iZ (by unfold fB; rw [if_pos c137])) ?_
      refine lv_goto (tgt := 149) hx hb d_Mo_open_143 (by decide) ?_
      exact lp_Mo_open_149 h0 th au al av ao ah ar ap t ng me mf mb mm ms mt mq mz b nw hb9 hok C0 hA hE (0 + 1)  _ _ _ (Nat.lt_succ_self _)  (hK.sub [] rfl) (hP.sub [0] rfl) (hD.sub [0] (by decide) rfl) hS (lv_sub hl [0, 1, 2] rfl)
set_option maxHeartbeats 4000000 in
set_option maxRecDepth 100000 in
theorem lp_Mo_open_117 {p : Program} {l : Launch} {e : Env} {s : State} {m : MethodId} {args : Array Value} {below : List Frame} {meth : Method} {c : Code} {A : Nat → Prop} {D : va_G} {Z : Nat → Nat} (h0 : Nat) (th : Int) (au : Nat) (al : Nat) (av : Nat) (ao : Nat) (ah : Nat) (ar : Nat) (ap : Nat) (t : List Nat) (ng : Bool) (me : Nat) (mf : Nat) (mb : Nat) (mm : Nat) (ms : Nat) (mt : Int) (mq : Nat) (mz : Int) (b : Nat) (nw : Bool) (hb9 : b < 18446744073709551616) (hok : nw = true → b < 4294967296) (C0 : cxA p s m args meth c b_Mo_open 4 R_Mo none) (hA : ∀ q : Nat, s.heap.size ≤ q → A q) (hE : Ev Z A s s.heap) : ∀ (N : Nat)  (H : Heap) (locs : List Loc) (ls : Array Slot), 0 < N → va_K D classes [] s → va_P D classes [(h0, .inr (5, [.int (iZ (th)), .ref au, .ref al, .ref av, .ref ao, .ref ah, .ref ar, .ref ap, .int (iZ ((((t).length : Nat) : Int))), .int (bZ (fN b nw = true)), .int (iZ (((fE b nw : Nat) : Int))), .long (lN (fF b nw)), .int (iZ (((fP nw : Nat) : Int))), .int (iZ (((fMo nw : Nat) : Int))), .long (lN (ms)), .int (iZ (mt)), .long (lN (mq)), .int (iZ (mz))]))] H → va_D A [(h0, .inr (5, [.int (iZ (th)), .ref au, .ref al, .ref av, .ref ao, .ref ah, .ref ar, .ref ap, .int (iZ ((((t).length : Nat) : Int))), .int (bZ (fN b nw = true)), .int (iZ (((fE b nw : Nat) : Int))), .long (lN (fF b nw)), .int (iZ (((fP nw : Nat) : Int))), .int (iZ (((fMo nw : Nat) : Int))), .long (lN (ms)), .int (iZ (mt)), .long (lN (mq)), .int (iZ (mz))]))] → va_S A s.heap H locs → lv_has ls 4 [(0, .ref h0), (1, .long (lN (b))), (3, .int (bZ (nw = true)))] → W p l e ({ frames := 0, cells := 0, slots := 0, locals := 0 } : Room) s m args below meth c H locs 0 0 (MQ below (Qc_Mo_open D h0 th au al av ao ah ar ap t ng me mf mb mm ms mt mq mz b nw A) args s 0 0 A) (F0 m 117 ls [.long (lN (fM b nw)), .ref h0]) := by
  obtain ⟨hx, hb, hml, hown, hts, hr, hlocks⟩ := id C0
  intro N
  induction N with
  | zero => intro  H locs ls hN; exact absurd hN (Nat.not_lt_zero _)
  | succ N ih =>
    intro  H locs ls hN  hK hP hD hS hl
    have hfp := fP_cases nw
    have hpp := fP_pow nw
    have hfe := fE_lt b nw
    have hff := fF_lt b nw
    refine va_put (D := D) (ci := 5) (v := .long (lN (fM b nw))) (ty := .long) (C := R_Mo) (T := F_Mo) (N := 18) hx hb hts i_Mo t_Mo t_Mo_ok n_Mo hown hK hP hD hS 0 rfl rfl 14 (by decide) (hts _ kw_306_) (fun _ h9 => h9) rfl (by decide +kernel) rfl rfl (Nat.le_of_ble_eq_true rfl) d_Mo_open_117 (fun H locs hP hD hS => ?_)
    have hP : va_P D classes [(h0, .inr (5, [.int (iZ (th)), .ref au, .ref al, .ref av, .ref ao, .ref ah, .ref ar, .ref ap, .int (iZ ((((t).length : Nat) : Int))), .int (bZ (fN b nw = true)), .int (iZ (((fE b nw : Nat) : Int))), .long (lN (fF b nw)), .int (iZ (((fP nw : Nat) : Int))), .int (iZ (((fMo nw : Nat) : Int))), .long (lN (fM b nw)), .int (iZ (mt)), .long (lN (mq)), .int (iZ (mz))]))] H := hP
    have hD : va_D A [(h0, .inr (5, [.int (iZ (th)), .ref au, .ref al, .ref av, .ref ao, .ref ah, .ref ar, .ref ap, .int (iZ ((((t).length : Nat) : Int))), .int (bZ (fN b nw = true)), .int (iZ (((fE b nw : Nat) : Int))), .long (lN (fF b nw)), .int (iZ (((fP nw : Nat) : Int))), .int (iZ (((fMo nw : Nat) : Int))), .long (lN (fM b nw)), .int (iZ (mt)), .long (lN (mq)), .int (iZ (mz))]))] := hD
    refine lv_aload_n hx hb d_Mo_open_120 rfl (lv_at hl 0 rfl) ?_
    refine lv_aload_n hx hb d_Mo_open_121 rfl (lv_at hl 0 rfl) ?_
    refine va_get (D := D) (ci := 5) (v := .int (iZ (((fE b nw : Nat) : Int)))) (C := R_Mo) (T := F_Mo) (N := 18) hx hb hts i_Mo hown hK hP 0 rfl rfl 10 (by decide) (hts _ kw_307_) (fun _ h9 => h9) rfl d_Mo_open_122 ?_
    refine zv_if_ne (tgt := 132) hx hb d_Mo_open_125 (by decide) (by omega) (fun c125 => ?_) (fun c125 => ?_)
    · refine lv_aload_n hx hb d_Mo_open_132 rfl (lv_at hl 0 rfl) ?_
      refine va_get (D := D) (ci := 5) (v := .int (iZ (((fE b nw : Nat) : Int)))) (C := R_Mo) (T := F_Mo) (N := 18) hx hb hts i_Mo hown hK hP 0 rfl rfl 10 (by decide) (hts _ kw_307_) (fun _ h9 => h9) rfl d_Mo_open_133 ?_
      refine zv_top (y := iZ (max ((fE b nw : Nat) : Int) 1)) (congrArg iZ (by omega)) ?_
      exact lp_Mo_open_136 h0 th au al av ao ah ar ap t ng me mf mb mm ms mt mq mz b nw hb9 hok C0 hA hE (0 + 1)  _ _ _ (Nat.lt_succ_self _)  (hK.sub [] rfl) (hP.sub [0] rfl) (hD.sub [0] (by decide) rfl) hS (lv_sub hl [0, 1, 2] rfl)
    · refine lv_iconst (v := iZ (1)) hx hb d_Mo_open_128 rfl ?_
      refine zv_top (y := iZ (max ((fE b nw : Nat) : Int) 1)) (congrArg iZ (by omega)) ?_
      refine lv_goto (tgt := 136) hx hb d_Mo_open_129 (by decide) ?_
      exact lp_Mo_open_136 h0 th au al av ao ah ar ap t ng me mf mb mm ms mt mq mz b nw hb9 hok C0 hA hE (0 + 1)  _ _ _ (Nat.lt_succ_self _)  (hK.sub [] rfl) (hP.sub [0] rfl) (hD.sub [0] (by decide) rfl) hS (lv_sub hl [0, 1, 2] rfl)
set_option maxHeartbeats 4000000 in
set_option maxRecDepth 100000 in
theorem lp_Mo_open_58 {p : Program} {l : Launch} {e : Env} {s : State} {m : MethodId} {args : Array Value} {below : List Frame} {meth : Method} {c : Code} {A : Nat → Prop} {D : va_G} {Z : Nat → Nat} (h0 : Nat) (th : Int) (au : Nat) (al : Nat) (av : Nat) (ao : Nat) (ah : Nat) (ar : Nat) (ap : Nat) (t : List Nat) (ng : Bool) (me : Nat) (mf : Nat) (mb : Nat) (mm : Nat) (ms : Nat) (mt : Int) (mq : Nat) (mz : Int) (b : Nat) (nw : Bool) (hb9 : b < 18446744073709551616) (hok : nw = true → b < 4294967296) (C0 : cxA p s m args meth c b_Mo_open 4 R_Mo none) (hA : ∀ q : Nat, s.heap.size ≤ q → A q) (hE : Ev Z A s s.heap) : ∀ (N : Nat)  (H : Heap) (locs : List Loc) (ls : Array Slot), 0 < N → va_K D classes [] s → va_P D classes [(h0, .inr (5, [.int (iZ (th)), .ref au, .ref al, .ref av, .ref ao, .ref ah, .ref ar, .ref ap, .int (iZ ((((t).length : Nat) : Int))), .int (bZ (ng = true)), .int (iZ (((me : Nat) : Int))), .long (lN (mf)), .int (iZ (((fP nw : Nat) : Int))), .int (iZ (((fMo nw : Nat) : Int))), .long (lN (ms)), .int (iZ (mt)), .long (lN (mq)), .int (iZ (mz))]))] H → va_D A [(h0, .inr (5, [.int (iZ (th)), .ref au, .ref al, .ref av, .ref ao, .ref ah, .ref ar, .ref ap, .int (iZ ((((t).length : Nat) : Int))), .int (bZ (ng = true)), .int (iZ (((me : Nat) : Int))), .long (lN (mf)), .int (iZ (((fP nw : Nat) : Int))), .int (iZ (((fMo nw : Nat) : Int))), .long (lN (ms)), .int (iZ (mt)), .long (lN (mq)), .int (iZ (mz))]))] → va_S A s.heap H locs → lv_has ls 4 [(0, .ref h0), (1, .long (lN (b))), (3, .int (bZ (nw = true)))] → W p l e ({ frames := 0, cells := 0, slots := 0, locals := 0 } : Room) s m args below meth c H locs 0 0 (MQ below (Qc_Mo_open D h0 th au al av ao ah ar ap t ng me mf mb mm ms mt mq mz b nw A) args s 0 0 A) (F0 m 58 ls [.int (bZ (fN b nw = true)), .ref h0]) := by
  obtain ⟨hx, hb, hml, hown, hts, hr, hlocks⟩ := id C0
  intro N
  induction N with
  | zero => intro  H locs ls hN; exact absurd hN (Nat.not_lt_zero _)
  | succ N ih =>
    intro  H locs ls hN  hK hP hD hS hl
    have hfp := fP_cases nw
    have hpp := fP_pow nw
    have hfe := fE_lt b nw
    have hff := fF_lt b nw
    refine va_put (D := D) (ci := 5) (v := .int (bZ (fN b nw = true))) (ty := .boolean) (C := R_Mo) (T := F_Mo) (N := 18) hx hb hts i_Mo t_Mo t_Mo_ok n_Mo hown hK hP hD hS 0 rfl rfl 9 (by decide) (hts _ kw_308_) (fun _ h9 => h9) rfl (by decide +kernel) bZ_nar bZ_fit (Nat.le_of_ble_eq_true rfl) d_Mo_open_58 (fun H locs hP hD hS => ?_)
    have hP : va_P D classes [(h0, .inr (5, [.int (iZ (th)), .ref au, .ref al, .ref av, .ref ao, .ref ah, .ref ar, .ref ap, .int (iZ ((((t).length : Nat) : Int))), .int (bZ (fN b nw = true)), .int (iZ (((me : Nat) : Int))), .long (lN (mf)), .int (iZ (((fP nw : Nat) : Int))), .int (iZ (((fMo nw : Nat) : Int))), .long (lN (ms)), .int (iZ (mt)), .long (lN (mq)), .int (iZ (mz))]))] H := hP
    have hD : va_D A [(h0, .inr (5, [.int (iZ (th)), .ref au, .ref al, .ref av, .ref ao, .ref ah, .ref ar, .ref ap, .int (iZ ((((t).length : Nat) : Int))), .int (bZ (fN b nw = true)), .int (iZ (((me : Nat) : Int))), .long (lN (mf)), .int (iZ (((fP nw : Nat) : Int))), .int (iZ (((fMo nw : Nat) : Int))), .long (lN (ms)), .int (iZ (mt)), .long (lN (mq)), .int (iZ (mz))]))] := hD
    refine lv_aload_n hx hb d_Mo_open_61 rfl (lv_at hl 0 rfl) ?_
    refine lv_lload_n hx hb d_Mo_open_62 rfl (lv_at hl 1 rfl) ?_
    refine lv_aload_n hx hb d_Mo_open_63 rfl (lv_at hl 0 rfl) ?_
    refine va_get (D := D) (ci := 5) (v := .int (iZ (((fP nw : Nat) : Int)))) (C := R_Mo) (T := F_Mo) (N := 18) hx hb hts i_Mo hown hK hP 0 rfl rfl 12 (by decide) (hts _ kw_309_) (fun _ h9 => h9) rfl d_Mo_open_64 ?_
    refine nv_lushr (k := (fP nw)) hx hb d_Mo_open_67 (rfl) (by omega) (by omega) ?_
    refine nv_l2i hx hb d_Mo_open_68 ?_
    refine lv_aload_n hx hb d_Mo_open_69 rfl (lv_at hl 0 rfl) ?_
    refine va_get (D := D) (ci := 5) (v := .int (iZ (((fMo nw : Nat) : Int)))) (C := R_Mo) (T := F_Mo) (N := 18) hx hb hts i_Mo hown hK hP 0 rfl rfl 13 (by decide) (hts _ kw_310_) (fun _ h9 => h9) rfl d_Mo_open_70 ?_
    refine zv_iand (a := (b / 2 ^ (fP nw))) (b := (fMo nw)) hx hb d_Mo_open_73 (rfl) (rfl) ?_
    refine zv_top (y := iZ (((fE b nw : Nat) : Int))) (congrArg iZ (congrArg Int.ofNat (open_exp hok hb9))) ?_
    refine va_put (D := D) (ci := 5) (v := .int (iZ (((fE b nw : Nat) : Int)))) (ty := .int) (C := R_Mo) (T := F_Mo) (N := 18) hx hb hts i_Mo t_Mo t_Mo_ok n_Mo hown hK hP hD hS 0 rfl rfl 10 (by decide) (hts _ kw_307_) (fun _ h9 => h9) rfl (by decide +kernel) rfl rfl (Nat.le_of_ble_eq_true rfl) d_Mo_open_74 (fun H locs hP hD hS => ?_)
    have hP : va_P D classes [(h0, .inr (5, [.int (iZ (th)), .ref au, .ref al, .ref av, .ref ao, .ref ah, .ref ar, .ref ap, .int (iZ ((((t).length : Nat) : Int))), .int (bZ (fN b nw = true)), .int (iZ (((fE b nw : Nat) : Int))), .long (lN (mf)), .int (iZ (((fP nw : Nat) : Int))), .int (iZ (((fMo nw : Nat) : Int))), .long (lN (ms)), .int (iZ (mt)), .long (lN (mq)), .int (iZ (mz))]))] H := hP
    have hD : va_D A [(h0, .inr (5, [.int (iZ (th)), .ref au, .ref al, .ref av, .ref ao, .ref ah, .ref ar, .ref ap, .int (iZ ((((t).length : Nat) : Int))), .int (bZ (fN b nw = true)), .int (iZ (((fE b nw : Nat) : Int))), .long (lN (mf)), .int (iZ (((fP nw : Nat) : Int))), .int (iZ (((fMo nw : Nat) : Int))), .long (lN (ms)), .int (iZ (mt)), .long (lN (mq)), .int (iZ (mz))]))] := hD
    refine lv_aload_n hx hb d_Mo_open_77 rfl (lv_at hl 0 rfl) ?_
    refine lv_lload_n hx hb d_Mo_open_78 rfl (lv_at hl 1 rfl) ?_
    refine lv_lconst (v := lN 1) hx hb d_Mo_open_79 rfl ?_
    refine lv_aload_n hx hb d_Mo_open_80 rfl (lv_at hl 0 rfl) ?_
    refine va_get (D := D) (ci := 5) (v := .int (iZ (((fP nw : Nat) : Int)))) (C := R_Mo) (T := F_Mo) (N := 18) hx hb hts i_Mo hown hK hP 0 rfl rfl 12 (by decide) (hts _ kw_309_) (fun _ h9 => h9) rfl d_Mo_open_81 ?_
    refine nv_lshl (k := (fP nw)) hx hb d_Mo_open_84 (rfl) (by omega) ?_
    refine lv_lconst (v := lN 1) hx hb d_Mo_open_85 rfl ?_
    refine nv_lsub hx hb d_Mo_open_86 (by rw [Nat.one_mul]; omega) ?_
    refine nv_land hx hb d_Mo_open_87 (by omega) (by rw [Nat.one_mul]; omega) ?_
    refine nv_top (y := lN (fF b nw)) (congrArg lN (by rw [Nat.one_mul, Nat.and_two_pow_sub_one_eq_mod]; rfl)) ?_
    refine va_put (D := D) (ci := 5) (v := .long (lN (fF b nw))) (ty := .long) (C := R_Mo) (T := F_Mo) (N := 18) hx hb hts i_Mo t_Mo t_Mo_ok n_Mo hown hK hP hD hS 0 rfl rfl 11 (by decide) (hts _ kw_311_) (fun _ h9 => h9) rfl (by decide +kernel) rfl rfl (Nat.le_of_ble_eq_true rfl) d_Mo_open_88 (fun H locs hP hD hS => ?_)
    have hP : va_P D classes [(h0, .inr (5, [.int (iZ (th)), .ref au, .ref al, .ref av, .ref ao, .ref ah, .ref ar, .ref ap, .int (iZ ((((t).length : Nat) : Int))), .int (bZ (fN b nw = true)), .int (iZ (((fE b nw : Nat) : Int))), .long (lN (fF b nw)), .int (iZ (((fP nw : Nat) : Int))), .int (iZ (((fMo nw : Nat) : Int))), .long (lN (ms)), .int (iZ (mt)), .long (lN (mq)), .int (iZ (mz))]))] H := hP
    have hD : va_D A [(h0, .inr (5, [.int (iZ (th)), .ref au, .ref al, .ref av, .ref ao, .ref ah, .ref ar, .ref ap, .int (iZ ((((t).length : Nat) : Int))), .int (bZ (fN b nw = true)), .int (iZ (((fE b nw : Nat) : Int))), .long (lN (fF b nw)), .int (iZ (((fP nw : Nat) : Int))), .int (iZ (((fMo nw : Nat) : Int))), .long (lN (ms)), .int (iZ (mt)), .long (lN (mq)), .int (iZ (mz))]))] := hD
    refine lv_aload_n hx hb d_Mo_open_91 rfl (lv_at hl 0 rfl) ?_
    refine lv_aload_n hx hb d_Mo_open_92 rfl (lv_at hl 0 rfl) ?_
    refine va_get (D := D) (ci := 5) (v := .int (iZ (((fE b nw : Nat) : Int)))) (C := R_Mo) (T := F_Mo) (N := 18) hx hb hts i_Mo hown hK hP 0 rfl rfl 10 (by decide) (hts _ kw_307_) (fun _ h9 => h9) rfl d_Mo_open_93 ?_
    refine zv_if_ne (tgt := 106) hx hb d_Mo_open_96 (by decide) (by omega) (fun c96 => ?_) (fun c96 => ?_)
    · refine lv_aload_n hx hb d_Mo_open_106 rfl (lv_at hl 0 rfl) ?_
      refine va_get (D := D) (ci := 5) (v := .long (lN (fF b nw))) (C := R_Mo) (T := F_Mo) (N := 18) hx hb hts i_Mo hown hK hP 0 rfl rfl 11 (by decide) (hts _ kw_311_) (fun _ h9 => h9) rfl d_Mo_open_107 ?_
      refine lv_lconst (v := lN 1) hx hb d_Mo_open_110 rfl ?_
      refine lv_aload_n hx hb d_Mo_open_111 rfl (lv_at hl 0 rfl) ?_
      refine va_get (D := D) (ci := 5) (v := .int (iZ (((fP nw : Nat) : Int)))) (C := R_Mo) (T := F_Mo) (N := 18) hx hb hts i_Mo hown hK hP 0 rfl rfl 12 (by decide) (hts _ kw_309_) (fun _ h9 => h9) rfl d_Mo_open_112 ?_
      refine nv_lshl (k := (fP nw)) hx hb d_Mo_open_115 (rfl) (by omega) ?_
      refine nv_ladd hx hb d_Mo_open_116 ?_
      refine nv_top (y := lN (fM b nw)) (congrArg lN (by unfold fM; rw [if_neg (by omega), Nat.one_mul, Nat.add_comm])) ?_
      exact lp_Mo_open_117 h0 th au al av ao ah ar ap t ng me mf mb mm ms mt mq mz b nw hb9 hok C0 hA hE (0 + 1)  _ _ _ (Nat.lt_succ_self _)  (hK.sub [] rfl) (hP.sub [0] rfl) (hD.sub [0] (by decide) rfl) hS (lv_sub hl [0, 1, 2] rfl)
    · refine lv_aload_n hx hb d_Mo_open_99 rfl (lv_at hl 0 rfl) ?_
      refine va_get (D := D) (ci := 5) (v := .long (lN (fF b nw))) (C := R_Mo) (T := F_Mo) (N := 18) hx hb hts i_Mo hown hK hP 0 rfl rfl 11 (by decide) (hts _ kw_311_) (fun _ h9 => h9) rfl d_Mo_open_100 ?_
      refine nv_top (y := lN (fM b nw)) (congrArg lN (by unfold fM; rw [if_pos (by omega), Nat.zero_add])) ?_
      refine lv_goto (tgt := 117) hx hb d_Mo_open_103 (by decide) ?_
      exact lp_Mo_open_117 h0 th au al av ao ah ar ap t ng me mf mb mm ms mt mq mz b nw hb9 hok C0 hA hE (0 + 1)  _ _ _ (Nat.lt_succ_self _)  (hK.sub [] rfl) (hP.sub [0] rfl) (hD.sub [0] (by decide) rfl) hS (lv_sub hl [0, 1, 2] rfl)
set_option maxHeartbeats 4000000 in
set_option maxRecDepth 100000 in
theorem lp_Mo_open_45 {p : Program} {l : Launch} {e : Env} {s : State} {m : MethodId} {args : Array Value} {below : List Frame} {meth : Method} {c : Code} {A : Nat → Prop} {D : va_G} {Z : Nat → Nat} (h0 : Nat) (th : Int) (au : Nat) (al : Nat) (av : Nat) (ao : Nat) (ah : Nat) (ar : Nat) (ap : Nat) (t : List Nat) (ng : Bool) (me : Nat) (mf : Nat) (mb : Nat) (mm : Nat) (ms : Nat) (mt : Int) (mq : Nat) (mz : Int) (b : Nat) (nw : Bool) (hb9 : b < 18446744073709551616) (hok : nw = true → b < 4294967296) (C0 : cxA p s m args meth c b_Mo_open 4 R_Mo none) (hA : ∀ q : Nat, s.heap.size ≤ q → A q) (hE : Ev Z A s s.heap) : ∀ (N : Nat)  (H : Heap) (locs : List Loc) (ls : Array Slot), 0 < N → va_K D classes [] s → va_P D classes [(h0, .inr (5, [.int (iZ (th)), .ref au, .ref al, .ref av, .ref ao, .ref ah, .ref ar, .ref ap, .int (iZ ((((t).length : Nat) : Int))), .int (bZ (ng = true)), .int (iZ (((me : Nat) : Int))), .long (lN (mf)), .int (iZ (((fP nw : Nat) : Int))), .int (iZ (((fMo nw : Nat) : Int))), .long (lN (ms)), .int (iZ (mt)), .long (lN (mq)), .int (iZ (mz))]))] H → va_D A [(h0, .inr (5, [.int (iZ (th)), .ref au, .ref al, .ref av, .ref ao, .ref ah, .ref ar, .ref ap, .int (iZ ((((t).length : Nat) : Int))), .int (bZ (ng = true)), .int (iZ (((me : Nat) : Int))), .long (lN (mf)), .int (iZ (((fP nw : Nat) : Int))), .int (iZ (((fMo nw : Nat) : Int))), .long (lN (ms)), .int (iZ (mt)), .long (lN (mq)), .int (iZ (mz))]))] → va_S A s.heap H locs → lv_has ls 4 [(0, .ref h0), (1, .long (lN (b))), (3, .int (bZ (nw = true)))] → W p l e ({ frames := 0, cells := 0, slots := 0, locals := 0 } : Room) s m args below meth c H locs 0 0 (MQ below (Qc_Mo_open D h0 th au al av ao ah ar ap t ng me mf mb mm ms mt mq mz b nw A) args s 0 0 A) (F0 m 45 ls [.int (iZ (((fSh nw : Nat) : Int))), .long (lN (b)), .ref h0]) := by
  obtain ⟨hx, hb, hml, hown, hts, hr, hlocks⟩ := id C0
  intro N
  induction N with
  | zero => intro  H locs ls hN; exact absurd hN (Nat.not_lt_zero _)
  | succ N ih =>
    intro  H locs ls hN  hK hP hD hS hl
    have hfp := fP_cases nw
    have hpp := fP_pow nw
    have hfe := fE_lt b nw
    have hff := fF_lt b nw
    refine nv_lushr (k := (fSh nw)) hx hb d_Mo_open_45 (rfl) (by omega) (by unfold fSh; split <;> decide) ?_
    refine lv_lconst (v := lN 1) hx hb d_Mo_open_46 rfl ?_
    refine nv_land hx hb d_Mo_open_47 (Nat.lt_of_le_of_lt (Nat.div_le_self _ _) hb9) (by decide) ?_
    refine nv_top (y := lN (b / fS nw % 2)) (congrArg lN (by rw [Nat.and_one_is_mod, fS_pow])) ?_
    refine lv_lconst (v := lN 1) hx hb d_Mo_open_48 rfl ?_
    refine nv_lcmp_ne (tgt := 57) hx hb d_Mo_open_49 d_Mo_open_50 (by decide) (by omega) (by decide) (fun c49 => ?_) (fun c49 => ?_)
    · refine lv_iconst (v := iZ (0)) hx hb d_Mo_open_57 rfl ?_
      refine zv_top (y := bZ (fN b nw = true)) ((bZ_f (by unfold fN; exact fun q => c49 (of_decide_eq_true q))).symm) ?_
      exact lp_Mo_open_58 h0 th au al av ao ah ar ap t ng me mf mb mm ms mt mq mz b nw hb9 hok C0 hA hE (0 + 1)  _ _ _ (Nat.lt_succ_self _)  (hK.sub [] rfl) (hP.sub [0] rfl) (hD.sub [0] (by decide) rfl) hS (lv_sub hl [0, 1, 2] rfl)
    · refine lv_iconst (v := iZ (1)) hx hb d_Mo_open_53 rfl ?_
      refine zv_top (y := bZ (fN b nw = true)) ((bZ_t (by unfold fN; exact decide_eq_true c49)).symm) ?_
      refine lv_goto (tgt := 58) hx hb d_Mo_open_54 (by decide) ?_
      exact lp_Mo_open_58 h0 th au al av ao ah ar ap t ng me mf mb mm ms mt mq mz b nw hb9 hok C0 hA hE (0 + 1)  _ _ _ (Nat.lt_succ_self _)  (hK.sub [] rfl) (hP.sub [0] rfl) (hD.sub [0] (by decide) rfl) hS (lv_sub hl [0, 1, 2] rfl)
set_option maxHeartbeats 4000000 in
set_option maxRecDepth 100000 in
theorem lp_Mo_open_29 {p : Program} {l : Launch} {e : Env} {s : State} {m : MethodId} {args : Array Value} {below : List Frame} {meth : Method} {c : Code} {A : Nat → Prop} {D : va_G} {Z : Nat → Nat} (h0 : Nat) (th : Int) (au : Nat) (al : Nat) (av : Nat) (ao : Nat) (ah : Nat) (ar : Nat) (ap : Nat) (t : List Nat) (ng : Bool) (me : Nat) (mf : Nat) (mb : Nat) (mm : Nat) (ms : Nat) (mt : Int) (mq : Nat) (mz : Int) (b : Nat) (nw : Bool) (hb9 : b < 18446744073709551616) (hok : nw = true → b < 4294967296) (C0 : cxA p s m args meth c b_Mo_open 4 R_Mo none) (hA : ∀ q : Nat, s.heap.size ≤ q → A q) (hE : Ev Z A s s.heap) : ∀ (N : Nat)  (H : Heap) (locs : List Loc) (ls : Array Slot), 0 < N → va_K D classes [] s → va_P D classes [(h0, .inr (5, [.int (iZ (th)), .ref au, .ref al, .ref av, .ref ao, .ref ah, .ref ar, .ref ap, .int (iZ ((((t).length : Nat) : Int))), .int (bZ (ng = true)), .int (iZ (((me : Nat) : Int))), .long (lN (mf)), .int (iZ (((fP nw : Nat) : Int))), .int (iZ (((mm : Nat) : Int))), .long (lN (ms)), .int (iZ (mt)), .long (lN (mq)), .int (iZ (mz))]))] H → va_D A [(h0, .inr (5, [.int (iZ (th)), .ref au, .ref al, .ref av, .ref ao, .ref ah, .ref ar, .ref ap, .int (iZ ((((t).length : Nat) : Int))), .int (bZ (ng = true)), .int (iZ (((me : Nat) : Int))), .long (lN (mf)), .int (iZ (((fP nw : Nat) : Int))), .int (iZ (((mm : Nat) : Int))), .long (lN (ms)), .int (iZ (mt)), .long (lN (mq)), .int (iZ (mz))]))] → va_S A s.heap H locs → lv_has ls 4 [(0, .ref h0), (1, .long (lN (b))), (3, .int (bZ (nw = true)))] → W p l e ({ frames := 0, cells := 0, slots := 0, locals := 0 } : Room) s m args below meth c H locs 0 0 (MQ below (Qc_Mo_open D h0 th au al av ao ah ar ap t ng me mf mb mm ms mt mq mz b nw A) args s 0 0 A) (F0 m 29 ls [.int (iZ (((fMo nw : Nat) : Int))), .ref h0]) := by
  obtain ⟨hx, hb, hml, hown, hts, hr, hlocks⟩ := id C0
  intro N
  induction N with
  | zero => intro  H locs ls hN; exact absurd hN (Nat.not_lt_zero _)
  | succ N ih =>
    intro  H locs ls hN  hK hP hD hS hl
    have hfp := fP_cases nw
    have hpp := fP_pow nw
    have hfe := fE_lt b nw
    have hff := fF_lt b nw
    refine va_put (D := D) (ci := 5) (v := .int (iZ (((fMo nw : Nat) : Int)))) (ty := .int) (C := R_Mo) (T := F_Mo) (N := 18) hx hb hts i_Mo t_Mo t_Mo_ok n_Mo hown hK hP hD hS 0 rfl rfl 13 (by decide) (hts _ kw_310_) (fun _ h9 => h9) rfl (by decide +kernel) rfl rfl (Nat.le_of_ble_eq_true rfl) d_Mo_open_29 (fun H locs hP hD hS => ?_)
    have hP : va_P D classes [(h0, .inr (5, [.int (iZ (th)), .ref au, .ref al, .ref av, .ref ao, .ref ah, .ref ar, .ref ap, .int (iZ ((((t).length : Nat) : Int))), .int (bZ (ng = true)), .int (iZ (((me : Nat) : Int))), .long (lN (mf)), .int (iZ (((fP nw : Nat) : Int))), .int (iZ (((fMo nw : Nat) : Int))), .long (lN (ms)), .int (iZ (mt)), .long (lN (mq)), .int (iZ (mz))]))] H := hP
    have hD : va_D A [(h0, .inr (5, [.int (iZ (th)), .ref au, .ref al, .ref av, .ref ao, .ref ah, .ref ar, .ref ap, .int (iZ ((((t).length : Nat) : Int))), .int (bZ (ng = true)), .int (iZ (((me : Nat) : Int))), .long (lN (mf)), .int (iZ (((fP nw : Nat) : Int))), .int (iZ (((fMo nw : Nat) : Int))), .long (lN (ms)), .int (iZ (mt)), .long (lN (mq)), .int (iZ (mz))]))] := hD
    refine lv_aload_n hx hb d_Mo_open_32 rfl (lv_at hl 0 rfl) ?_
    refine lv_lload_n hx hb d_Mo_open_33 rfl (lv_at hl 1 rfl) ?_
    refine lv_iload_n hx hb d_Mo_open_34 rfl (lv_at hl 2 rfl) ?_
    refine bv_if_eq (tgt := 43) hx hb d_Mo_open_35 (by decide) (fun c35 => ?_) (fun c35 => ?_)
    · refine lv_bipush (v := iZ (63)) hx hb d_Mo_open_43 (by decide) ?_
      refine zv_top (y := iZ (((fSh nw : Nat) : Int))) (congrArg iZ (by unfold fSh; rw [if_neg c35]; rfl)) ?_
      exact lp_Mo_open_45 h0 th au al av ao ah ar ap t ng me mf mb mm ms mt mq mz b nw hb9 hok C0 hA hE (0 + 1)  _ _ _ (Nat.lt_succ_self _)  (hK.sub [] rfl) (hP.sub [0] rfl) (hD.sub [0] (by decide) rfl) hS (lv_sub hl [0, 1, 2] rfl)
    · refine lv_bipush (v := iZ (31)) hx hb d_Mo_open_38 (by decide) ?_
      refine zv_top (y := iZ (((fSh nw : Nat) : Int))) (congrArg iZ (by unfold fSh; rw [if_pos c35]; rfl)) ?_
      refine lv_goto (tgt := 45) hx hb d_Mo_open_40 (by decide) ?_
      exact lp_Mo_open_45 h0 th au al av ao ah ar ap t ng me mf mb mm ms mt mq mz b nw hb9 hok C0 hA hE (0 + 1)  _ _ _ (Nat.lt_succ_self _)  (hK.sub [] rfl) (hP.sub [0] rfl) (hD.sub [0] (by decide) rfl) hS (lv_sub hl [0, 1, 2] rfl)
set_option maxHeartbeats 4000000 in
set_option maxRecDepth 100000 in
theorem lp_Mo_open_12 {p : Program} {l : Launch} {e : Env} {s : State} {m : MethodId} {args : Array Value} {below : List Frame} {meth : Method} {c : Code} {A : Nat → Prop} {D : va_G} {Z : Nat → Nat} (h0 : Nat) (th : Int) (au : Nat) (al : Nat) (av : Nat) (ao : Nat) (ah : Nat) (ar : Nat) (ap : Nat) (t : List Nat) (ng : Bool) (me : Nat) (mf : Nat) (mb : Nat) (mm : Nat) (ms : Nat) (mt : Int) (mq : Nat) (mz : Int) (b : Nat) (nw : Bool) (hb9 : b < 18446744073709551616) (hok : nw = true → b < 4294967296) (C0 : cxA p s m args meth c b_Mo_open 4 R_Mo none) (hA : ∀ q : Nat, s.heap.size ≤ q → A q) (hE : Ev Z A s s.heap) : ∀ (N : Nat)  (H : Heap) (locs : List Loc) (ls : Array Slot), 0 < N → va_K D classes [] s → va_P D classes [(h0, .inr (5, [.int (iZ (th)), .ref au, .ref al, .ref av, .ref ao, .ref ah, .ref ar, .ref ap, .int (iZ ((((t).length : Nat) : Int))), .int (bZ (ng = true)), .int (iZ (((me : Nat) : Int))), .long (lN (mf)), .int (iZ (((mb : Nat) : Int))), .int (iZ (((mm : Nat) : Int))), .long (lN (ms)), .int (iZ (mt)), .long (lN (mq)), .int (iZ (mz))]))] H → va_D A [(h0, .inr (5, [.int (iZ (th)), .ref au, .ref al, .ref av, .ref ao, .ref ah, .ref ar, .ref ap, .int (iZ ((((t).length : Nat) : Int))), .int (bZ (ng = true)), .int (iZ (((me : Nat) : Int))), .long (lN (mf)), .int (iZ (((mb : Nat) : Int))), .int (iZ (((mm : Nat) : Int))), .long (lN (ms)), .int (iZ (mt)), .long (lN (mq)), .int (iZ (mz))]))] → va_S A s.heap H locs → lv_has ls 4 [(0, .ref h0), (1, .long (lN (b))), (3, .int (bZ (nw = true)))] → W p l e ({ frames := 0, cells := 0, slots := 0, locals := 0 } : Room) s m args below meth c H locs 0 0 (MQ below (Qc_Mo_open D h0 th au al av ao ah ar ap t ng me mf mb mm ms mt mq mz b nw A) args s 0 0 A) (F0 m 12 ls [.int (iZ (((fP nw : Nat) : Int))), .ref h0]) := by
  obtain ⟨hx, hb, hml, hown, hts, hr, hlocks⟩ := id C0
  intro N
  induction N with
  | zero => intro  H locs ls hN; exact absurd hN (Nat.not_lt_zero _)
  | succ N ih =>
    intro  H locs ls hN  hK hP hD hS hl
    have hfp := fP_cases nw
    have hpp := fP_pow nw
    have hfe := fE_lt b nw
    have hff := fF_lt b nw
    refine va_put (D := D) (ci := 5) (v := .int (iZ (((fP nw : Nat) : Int)))) (ty := .int) (C := R_Mo) (T := F_Mo) (N := 18) hx hb hts i_Mo t_Mo t_Mo_ok n_Mo hown hK hP hD hS 0 rfl rfl 12 (by decide) (hts _ kw_309_) (fun _ h9 => h9) rfl (by decide +kernel) rfl rfl (Nat.le_of_ble_eq_true rfl) d_Mo_open_12 (fun H locs hP hD hS => ?_)
    have hP : va_P D classes [(h0, .inr (5, [.int (iZ (th)), .ref au, .ref al, .ref av, .ref ao, .ref ah, .ref ar, .ref ap, .int (iZ ((((t).length : Nat) : Int))), .int (bZ (ng = true)), .int (iZ (((me : Nat) : Int))), .long (lN (mf)), .int (iZ (((fP nw : Nat) : Int))), .int (iZ (((mm : Nat) : Int))), .long (lN (ms)), .int (iZ (mt)), .long (lN (mq)), .int (iZ (mz))]))] H := hP
    have hD : va_D A [(h0, .inr (5, [.int (iZ (th)), .ref au, .ref al, .ref av, .ref ao, .ref ah, .ref ar, .ref ap, .int (iZ ((((t).length : Nat) : Int))), .int (bZ (ng = true)), .int (iZ (((me : Nat) : Int))), .long (lN (mf)), .int (iZ (((fP nw : Nat) : Int))), .int (iZ (((mm : Nat) : Int))), .long (lN (ms)), .int (iZ (mt)), .long (lN (mq)), .int (iZ (mz))]))] := hD
    refine lv_aload_n hx hb d_Mo_open_15 rfl (lv_at hl 0 rfl) ?_
    refine lv_iload_n hx hb d_Mo_open_16 rfl (lv_at hl 2 rfl) ?_
    refine bv_if_eq (tgt := 26) hx hb d_Mo_open_17 (by decide) (fun c17 => ?_) (fun c17 => ?_)
    · refine lv_sipush (v := iZ (2047)) hx hb d_Mo_open_26 (by decide) ?_
      refine zv_top (y := iZ (((fMo nw : Nat) : Int))) (congrArg iZ (by unfold fMo; rw [if_neg c17]; rfl)) ?_
      exact lp_Mo_open_29 h0 th au al av ao ah ar ap t ng me mf mb mm ms mt mq mz b nw hb9 hok C0 hA hE (0 + 1)  _ _ _ (Nat.lt_succ_self _)  (hK.sub [] rfl) (hP.sub [0] rfl) (hD.sub [0] (by decide) rfl) hS (lv_sub hl [0, 1, 2] rfl)
    · refine lv_sipush (v := iZ (255)) hx hb d_Mo_open_20 (by decide) ?_
      refine zv_top (y := iZ (((fMo nw : Nat) : Int))) (congrArg iZ (by unfold fMo; rw [if_pos c17]; rfl)) ?_
      refine lv_goto (tgt := 29) hx hb d_Mo_open_23 (by decide) ?_
      exact lp_Mo_open_29 h0 th au al av ao ah ar ap t ng me mf mb mm ms mt mq mz b nw hb9 hok C0 hA hE (0 + 1)  _ _ _ (Nat.lt_succ_self _)  (hK.sub [] rfl) (hP.sub [0] rfl) (hD.sub [0] (by decide) rfl) hS (lv_sub hl [0, 1, 2] rfl)
set_option maxHeartbeats 4000000 in
set_option maxRecDepth 100000 in
theorem c_Mo_open (l : Launch) (D : va_G) (Z : Nat → Nat) (hz9 : Nat) (h0 : Nat) (th : Int) (au : Nat) (al : Nat) (av : Nat) (ao : Nat) (ah : Nat) (ar : Nat) (ap : Nat) (t : List Nat) (ng : Bool) (me : Nat) (mf : Nat) (mb : Nat) (mm : Nat) (ms : Nat) (mt : Int) (mq : Nat) (mz : Int) (b : Nat) (nw : Bool) (hb9 : b < 18446744073709551616) (hok : nw = true → b < 4294967296) : Met l y_Mo_open (.code y_Mo_open b_Mo_open 4 none :: gT) ({ frames := 0, cells := 0, slots := 0, locals := 0 } : Room) (va_Pc [.ref h0, .long (lN (b)), .int (bZ (nw = true))] (cpre D Z [(h0, .inr (5, [.int (iZ (th)), .ref au, .ref al, .ref av, .ref ao, .ref ah, .ref ar, .ref ap, .int (iZ ((((t).length : Nat) : Int))), .int (bZ (ng = true)), .int (iZ (((me : Nat) : Int))), .long (lN (mf)), .int (iZ (((mb : Nat) : Int))), .int (iZ (((mm : Nat) : Int))), .long (lN (ms)), .int (iZ (mt)), .long (lN (mq)), .int (iZ (mz))]))] [] hz9)) (Qc_Mo_open D h0 th au al av ao ah ar ap t ng me mf mb mm ms mt mq mz b nw (va_A [(h0, .inr (5, [.int (iZ (th)), .ref au, .ref al, .ref av, .ref ao, .ref ah, .ref ar, .ref ap, .int (iZ ((((t).length : Nat) : Int))), .int (bZ (ng = true)), .int (iZ (((me : Nat) : Int))), .long (lN (mf)), .int (iZ (((mb : Nat) : Int))), .int (iZ (((mm : Nat) : Int))), .long (lN (ms)), .int (iZ (mt)), .long (lN (mq)), .int (iZ (mz))]))] hz9)) 0 0 (va_A [(h0, .inr (5, [.int (iZ (th)), .ref au, .ref al, .ref av, .ref ao, .ref ah, .ref ar, .ref ap, .int (iZ ((((t).length : Nat) : Int))), .int (bZ (ng = true)), .int (iZ (((me : Nat) : Int))), .long (lN (mf)), .int (iZ (((mb : Nat) : Int))), .int (iZ (((mm : Nat) : Int))), .long (lN (ms)), .int (iZ (mt)), .long (lN (mq)), .int (iZ (mz))]))] hz9) := by
  refine met_go (Qf := Qc_Mo_open D h0 th au al av ao ah ar ap t ng me mf mb mm ms mt mq mz b nw) (ff := fun A => A) (by decide) ?_
  intro p e s m below meth c A C0 hin hsz9 hA hE hK hP hD
  obtain ⟨hx, hb, hml, hown, hts, hr, hlocks⟩ := id C0
  have hS : va_S A s.heap s.heap [] := va_S.rf
  have hl := lv_entry [.ref h0, .long (lN (b)), .int (bZ (nw = true))] (n := 4) (Nat.le_of_ble_eq_true rfl)
  rw [lg_entry_eq]
  generalize (lg_sl [.ref h0, .long (lN (b)), .int (bZ (nw = true))] ++ List.replicate (4 - (lg_sl [.ref h0, .long (lN (b)), .int (bZ (nw = true))]).length) Slot.unset).toArray = ls at hl ⊢
  have hl : lv_has ls 4 [(0, .ref h0), (1, .long (lN (b))), (3, .int (bZ (nw = true)))] := hl
  refine lv_aload_n hx hb d_Mo_open_0 rfl (lv_at hl 0 rfl) ?_
  refine lv_iload_n hx hb d_Mo_open_1 rfl (lv_at hl 2 rfl) ?_
  refine bv_if_eq (tgt := 10) hx hb d_Mo_open_2 (by decide) (fun c2 => ?_) (fun c2 => ?_)
  · refine lv_bipush (v := iZ (52)) hx hb d_Mo_open_10 (by decide) ?_
    refine zv_top (y := iZ (((fP nw : Nat) : Int))) (congrArg iZ (by unfold fP; rw [if_neg c2]; rfl)) ?_
    exact lp_Mo_open_12 h0 th au al av ao ah ar ap t ng me mf mb mm ms mt mq mz b nw hb9 hok C0 hA hE (0 + 1)  _ _ _ (Nat.lt_succ_self _)  (hK.sub [] rfl) (hP.sub [0] rfl) (hD.sub [0] (by decide) rfl) hS (lv_sub hl [0, 1, 2] rfl)
  · refine lv_bipush (v := iZ (23)) hx hb d_Mo_open_5 (by decide) ?_
    refine zv_top (y := iZ (((fP nw : Nat) : Int))) (congrArg iZ (by unfold fP; rw [if_pos c2]; rfl)) ?_
    refine lv_goto (tgt := 12) hx hb d_Mo_open_7 (by decide) ?_
    exact lp_Mo_open_12 h0 th au al av ao ah ar ap t ng me mf mb mm ms mt mq mz b nw hb9 hok C0 hA hE (0 + 1)  _ _ _ (Nat.lt_succ_self _)  (hK.sub [] rfl) (hP.sub [0] rfl) (hD.sub [0] (by decide) rfl) hS (lv_sub hl [0, 1, 2] rfl)
abbrev Qc_Mo_isFinite (D : va_G) (h0 : Nat) (th : Int) (au : Nat) (al : Nat) (av : Nat) (ao : Nat) (ah : Nat) (ar : Nat) (ap : Nat) (t : List Nat) (ng : Bool) (me : Nat) (mf : Nat) (mb : Nat) (mm : Nat) (ms : Nat) (mt : Int) (mq : Nat) (mz : Int) (A : Nat → Prop) : Array Value → State → Outcome → State → Prop := vp_Si (fun r : Int32 => r = bZ (me < mm))
set_option maxHeartbeats 4000000 in
set_option maxRecDepth 100000 in
theorem c_Mo_isFinite (l : Launch) (D : va_G) (Z : Nat → Nat) (hz9 : Nat) (h0 : Nat) (th : Int) (au : Nat) (al : Nat) (av : Nat) (ao : Nat) (ah : Nat) (ar : Nat) (ap : Nat) (t : List Nat) (ng : Bool) (me : Nat) (mf : Nat) (mb : Nat) (mm : Nat) (ms : Nat) (mt : Int) (mq : Nat) (mz : Int) (hme : me < 2147483648) (hmm : mm < 2147483648) : Met l y_Mo_isFinite (.code y_Mo_isFinite b_Mo_isFinite 1 (some .boolean) :: gT) ({ frames := 0, cells := 0, slots := 0, locals := 0 } : Room) (va_Pc [.ref h0] (cpre D Z [(h0, .inr (5, [.int (iZ (th)), .ref au, .ref al, .ref av, .ref ao, .ref ah, .ref ar, .ref ap, .int (iZ ((((t).length : Nat) : Int))), .int (bZ (ng = true)), .int (iZ (((me : Nat) : Int))), .long (lN (mf)), .int (iZ (((mb : Nat) : Int))), .int (iZ (((mm : Nat) : Int))), .long (lN (ms)), .int (iZ (mt)), .long (lN (mq)), .int (iZ (mz))]))] [] hz9)) (Qc_Mo_isFinite D h0 th au al av ao ah ar ap t ng me mf mb mm ms mt mq mz (va_A [(h0, .inr (5, [.int (iZ (th)), .ref au, .ref al, .ref av, .ref ao, .ref ah, .ref ar, .ref ap, .int (iZ ((((t).length : Nat) : Int))), .int (bZ (ng = true)), .int (iZ (((me : Nat) : Int))), .long (lN (mf)), .int (iZ (((mb : Nat) : Int))), .int (iZ (((mm : Nat) : Int))), .long (lN (ms)), .int (iZ (mt)), .long (lN (mq)), .int (iZ (mz))]))] hz9)) 0 0 (fun _ => False) := by
  refine met_go (Qf := Qc_Mo_isFinite D h0 th au al av ao ah ar ap t ng me mf mb mm ms mt mq mz) (ff := fun _ _ => False) (by decide) ?_
  intro p e s m below meth c A C0 hin hsz9 hA hE hK hP hD
  obtain ⟨hx, hb, hml, hown, hts, hr, hlocks⟩ := id C0
  have hS : va_S A s.heap s.heap [] := va_S.rf
  have hl := lv_entry [.ref h0] (n := 1) (Nat.le_of_ble_eq_true rfl)
  rw [lg_entry_eq]
  generalize (lg_sl [.ref h0] ++ List.replicate (1 - (lg_sl [.ref h0]).length) Slot.unset).toArray = ls at hl ⊢
  have hl : lv_has ls 1 [(0, .ref h0)] := hl
  refine lv_aload_n hx hb d_Mo_isFinite_0 rfl (lv_at hl 0 rfl) ?_
  refine va_get (D := D) (ci := 5) (v := .int (iZ (((me : Nat) : Int)))) (C := R_Mo) (T := F_Mo) (N := 18) hx hb hts i_Mo hown hK hP 0 rfl rfl 10 (by decide) (hts _ kw_307_) (fun _ h9 => h9) rfl d_Mo_isFinite_1 ?_
  refine lv_aload_n hx hb d_Mo_isFinite_4 rfl (lv_at hl 0 rfl) ?_
  refine va_get (D := D) (ci := 5) (v := .int (iZ (((mm : Nat) : Int)))) (C := R_Mo) (T := F_Mo) (N := 18) hx hb hts i_Mo hown hK hP 0 rfl rfl 13 (by decide) (hts _ kw_310_) (fun _ h9 => h9) rfl d_Mo_isFinite_5 ?_
  refine zv_icmp_ge (tgt := 15) hx hb d_Mo_isFinite_8 (by decide) (by omega) (by omega) (fun c8 => ?_) (fun c8 => ?_)
  · refine lv_iconst (v := iZ (0)) hx hb d_Mo_isFinite_15 rfl ?_
    exact er_z hx hb hr hlocks (by decide) d_Mo_isFinite_16 (show iZ (0) = bZ (me < mm) from by first | exact (bZ_t (by omega)).symm | exact (bZ_f (by omega)).symm)
  · refine lv_iconst (v := iZ (1)) hx hb d_Mo_isFinite_11 rfl ?_
    refine lv_goto (tgt := 16) hx hb d_Mo_isFinite_12 (by decide) ?_
    exact er_z hx hb hr hlocks (by decide) d_Mo_isFinite_16 (show iZ (1) = bZ (me < mm) from by first | exact (bZ_t (by omega)).symm | exact (bZ_f (by omega)).symm)
