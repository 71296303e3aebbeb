theorem kw_397_ : Cond.constantLong R_Mo 188 (4503599627370496) ∈ gT := gT_in 846 (by decide +kernel) (by decide +kernel)
theorem kw_398_ : Cond.constantLong R_Mo 186 (9218868437227405312) ∈ gT := gT_in 845 (by decide +kernel) (by decide +kernel)
theorem kw_399_ : Cond.constantLong R_Mo 184 (9221120237041090560) ∈ gT := gT_in 844 (by decide +kernel) (by decide +kernel)
theorem kw_400_ : Cond.constantLong R_Mo 182 (-9223372036854775808) ∈ gT := gT_in 843 (by decide +kernel) (by decide +kernel)
theorem d_Mo_widened_0 : decode b_Mo_widened 0 = .ok (.aload_n 0, 1) := by decide +kernel
theorem d_Mo_widened_1 : decode b_Mo_widened 1 = .ok (.lload_n 1, 1) := by decide +kernel
theorem d_Mo_widened_2 : decode b_Mo_widened 2 = .ok (.iconst 1, 1) := by decide +kernel
theorem d_Mo_widened_3 : decode b_Mo_widened 3 = .ok (.invokestatic 122, 3) := by decide +kernel
theorem d_Mo_widened_6 : decode b_Mo_widened 6 = .ok (.ifCond .eq 7, 3) := by decide +kernel
theorem d_Mo_widened_9 : decode b_Mo_widened 9 = .ok (.iconst 1, 1) := by decide +kernel
theorem d_Mo_widened_10 : decode b_Mo_widened 10 = .ok (.goto 4, 3) := by decide +kernel
theorem d_Mo_widened_13 : decode b_Mo_widened 13 = .ok (.iconst 0, 1) := by decide +kernel
theorem d_Mo_widened_14 : decode b_Mo_widened 14 = .ok (.putfield 31, 3) := by decide +kernel
theorem d_Mo_widened_17 : decode b_Mo_widened 17 = .ok (.aload_n 0, 1) := by decide +kernel
theorem d_Mo_widened_18 : decode b_Mo_widened 18 = .ok (.getfield 31, 3) := by decide +kernel
theorem d_Mo_widened_21 : decode b_Mo_widened 21 = .ok (.ifCond .le 5, 3) := by decide +kernel
theorem d_Mo_widened_24 : decode b_Mo_widened 24 = .ok (.lconst 0, 1) := by decide +kernel
theorem d_Mo_widened_25 : decode b_Mo_widened 25 = .ok (.lreturn, 1) := by decide +kernel
theorem d_Mo_widened_26 : decode b_Mo_widened 26 = .ok (.aload_n 0, 1) := by decide +kernel
theorem d_Mo_widened_27 : decode b_Mo_widened 27 = .ok (.lload_n 1, 1) := by decide +kernel
theorem d_Mo_widened_28 : decode b_Mo_widened 28 = .ok (.iconst 1, 1) := by decide +kernel
theorem d_Mo_widened_29 : decode b_Mo_widened 29 = .ok (.invokevirtual 126, 3) := by decide +kernel
theorem d_Mo_widened_32 : decode b_Mo_widened 32 = .ok (.aload_n 0, 1) := by decide +kernel
theorem d_Mo_widened_33 : decode b_Mo_widened 33 = .ok (.getfield 41, 3) := by decide +kernel
theorem d_Mo_widened_36 : decode b_Mo_widened 36 = .ok (.ifCond .eq 9, 3) := by decide +kernel
theorem d_Mo_widened_39 : decode b_Mo_widened 39 = .ok (.ldc2_w 182, 3) := by decide +kernel
theorem d_Mo_widened_42 : decode b_Mo_widened 42 = .ok (.goto 4, 3) := by decide +kernel
theorem d_Mo_widened_45 : decode b_Mo_widened 45 = .ok (.lconst 0, 1) := by decide +kernel
theorem d_Mo_widened_46 : decode b_Mo_widened 46 = .ok (.lstore_n 3, 1) := by decide +kernel
theorem d_Mo_widened_47 : decode b_Mo_widened 47 = .ok (.aload_n 0, 1) := by decide +kernel
theorem d_Mo_widened_48 : decode b_Mo_widened 48 = .ok (.invokevirtual 130, 3) := by decide +kernel
theorem d_Mo_widened_51 : decode b_Mo_widened 51 = .ok (.ifCond .ne 24, 3) := by decide +kernel
theorem d_Mo_widened_54 : decode b_Mo_widened 54 = .ok (.aload_n 0, 1) := by decide +kernel
theorem d_Mo_widened_55 : decode b_Mo_widened 55 = .ok (.getfield 48, 3) := by decide +kernel
theorem d_Mo_widened_58 : decode b_Mo_widened 58 = .ok (.lconst 0, 1) := by decide +kernel
theorem d_Mo_widened_59 : decode b_Mo_widened 59 = .ok (.lcmp, 1) := by decide +kernel
theorem d_Mo_widened_60 : decode b_Mo_widened 60 = .ok (.ifCond .eq 9, 3) := by decide +kernel
theorem d_Mo_widened_63 : decode b_Mo_widened 63 = .ok (.ldc2_w 184, 3) := by decide +kernel
theorem d_Mo_widened_66 : decode b_Mo_widened 66 = .ok (.goto 8, 3) := by decide +kernel
theorem d_Mo_widened_69 : decode b_Mo_widened 69 = .ok (.lload_n 3, 1) := by decide +kernel
theorem d_Mo_widened_70 : decode b_Mo_widened 70 = .ok (.ldc2_w 186, 3) := by decide +kernel
theorem d_Mo_widened_73 : decode b_Mo_widened 73 = .ok (.lor, 1) := by decide +kernel
theorem d_Mo_widened_74 : decode b_Mo_widened 74 = .ok (.lreturn, 1) := by decide +kernel
theorem d_Mo_widened_75 : decode b_Mo_widened 75 = .ok (.aload_n 0, 1) := by decide +kernel
theorem d_Mo_widened_76 : decode b_Mo_widened 76 = .ok (.getfield 52, 3) := by decide +kernel
theorem d_Mo_widened_79 : decode b_Mo_widened 79 = .ok (.lconst 0, 1) := by decide +kernel
theorem d_Mo_widened_80 : decode b_Mo_widened 80 = .ok (.lcmp, 1) := by decide +kernel
theorem d_Mo_widened_81 : decode b_Mo_widened 81 = .ok (.ifCond .ne 5, 3) := by decide +kernel
theorem d_Mo_widened_84 : decode b_Mo_widened 84 = .ok (.lload_n 3, 1) := by decide +kernel
theorem d_Mo_widened_85 : decode b_Mo_widened 85 = .ok (.lreturn, 1) := by decide +kernel
theorem d_Mo_widened_86 : decode b_Mo_widened 86 = .ok (.aload_n 0, 1) := by decide +kernel
theorem d_Mo_widened_87 : decode b_Mo_widened 87 = .ok (.getfield 52, 3) := by decide +kernel
theorem d_Mo_widened_90 : decode b_Mo_widened 90 = .ok (.lstore 5, 2) := by decide +kernel
theorem d_Mo_widened_92 : decode b_Mo_widened 92 = .ok (.aload_n 0, 1) := by decide +kernel
theorem d_Mo_widened_93 : decode b_Mo_widened 93 = .ok (.getfield 55, 3) := by decide +kernel
theorem d_Mo_widened_96 : decode b_Mo_widened 96 = .ok (.istore 7, 2) := by decide +kernel
theorem d_Mo_widened_98 : decode b_Mo_widened 98 = .ok (.lload 5, 2) := by decide +kernel
theorem d_Mo_widened_100 : decode b_Mo_widened 100 = .ok (.ldc2_w 188, 3) := by decide +kernel
theorem d_Mo_widened_103 : decode b_Mo_widened 103 = .ok (.lcmp, 1) := by decide +kernel
theorem d_Mo_widened_104 : decode b_Mo_widened 104 = .ok (.ifCond .ge 15, 3) := by decide +kernel
theorem d_Mo_widened_107 : decode b_Mo_widened 107 = .ok (.lload 5, 2) := by decide +kernel
theorem d_Mo_widened_109 : decode b_Mo_widened 109 = .ok (.iconst 1, 1) := by decide +kernel
theorem d_Mo_widened_110 : decode b_Mo_widened 110 = .ok (.lshl, 1) := by decide +kernel
theorem d_Mo_widened_111 : decode b_Mo_widened 111 = .ok (.lstore 5, 2) := by decide +kernel
theorem d_Mo_widened_113 : decode b_Mo_widened 113 = .ok (.iinc 7 (-1), 3) := by decide +kernel
theorem d_Mo_widened_116 : decode b_Mo_widened 116 = .ok (.goto (-18), 3) := by decide +kernel
theorem d_Mo_widened_119 : decode b_Mo_widened 119 = .ok (.lload_n 3, 1) := by decide +kernel
theorem d_Mo_widened_120 : decode b_Mo_widened 120 = .ok (.iload 7, 2) := by decide +kernel
theorem d_Mo_widened_122 : decode b_Mo_widened 122 = .ok (.sipush 1075, 3) := by decide +kernel
theorem d_Mo_widened_125 : decode b_Mo_widened 125 = .ok (.iadd, 1) := by decide +kernel
theorem d_Mo_widened_126 : decode b_Mo_widened 126 = .ok (.i2l, 1) := by decide +kernel
theorem d_Mo_widened_127 : decode b_Mo_widened 127 = .ok (.bipush 52, 2) := by decide +kernel
theorem d_Mo_widened_129 : decode b_Mo_widened 129 = .ok (.lshl, 1) := by decide +kernel
theorem d_Mo_widened_130 : decode b_Mo_widened 130 = .ok (.lload 5, 2) := by decide +kernel
theorem d_Mo_widened_132 : decode b_Mo_widened 132 = .ok (.ladd, 1) := by decide +kernel
theorem d_Mo_widened_133 : decode b_Mo_widened 133 = .ok (.ldc2_w 188, 3) := by decide +kernel
theorem d_Mo_widened_136 : decode b_Mo_widened 136 = .ok (.lsub, 1) := by decide +kernel
theorem d_Mo_widened_137 : decode b_Mo_widened 137 = .ok (.lor, 1) := by decide +kernel
theorem d_Mo_widened_138 : decode b_Mo_widened 138 = .ok (.lreturn, 1) := by decide +kernel
abbrev Qc_Mo_widened (D : va_G) (h0 : Nat) (th : Int) (au : Nat) (al : Nat) (av : Nat) (ao : Nat) (ah : Nat) (ar : Nat) (ap : Nat) (t : List Nat) (ng : Bool) (me : Nat) (mf : Nat) (mb : Nat) (mm : Nat) (ms : Nat) (mt : Int) (mq : Nat) (mz : Int) (b : Nat) (A : Nat → Prop) : Array Value → State → Outcome → State → Prop := va_Ql (fun (r : Int64) (u : Unit) => r = lN (widF b)) (fun (u : Unit) t9 => cpost D A [(h0, .inr (5, [.int (iZ (0)), .ref au, .ref al, .ref av, .ref ao, .ref ah, .ref ar, .ref ap, .int (iZ ((((t).length : Nat) : Int))), .int (bZ (fN b true = true)), .int (iZ (((fE b true : Nat) : Int))), .long (lN (fF b true)), .int (iZ (((fP true : Nat) : Int))), .int (iZ (((fMo true : Nat) : Int))), .long (lN (fM b true)), .int (iZ (fW b true)), .long (lN (mq)), .int (iZ (mz))]))] [] t9) A
set_option maxHeartbeats 4000000 in
set_option maxRecDepth 100000 in
theorem lp_Mo_widened_98 {p : Program} {l : Launch} {e : Env} {s : State} {m : MethodId} {args : Array Value} {below : List Frame} {meth : Method} {c : Code} {A : Nat → Prop} {D : va_G} {Z : Nat → Nat} (h0 : Nat) (th : Int) (au : Nat) (al : Nat) (av : Nat) (ao : Nat) (ah : Nat) (ar : Nat) (ap : Nat) (t : List Nat) (ng : Bool) (me : Nat) (mf : Nat) (mb : Nat) (mm : Nat) (ms : Nat) (mt : Int) (mq : Nat) (mz : Int) (b : Nat) (hb9 : b < 18446744073709551616) (hok : b < 4294967296) (C0 : cxA p s m args meth c b_Mo_widened 8 R_Mo (some .long)) (hA : ∀ q : Nat, s.heap.size ≤ q → A q) (hE : Ev Z A s s.heap) : ∀ (N : Nat) (i : Nat) (H : Heap) (locs : List Loc) (ls : Array Slot), 53 - i < N → (fSz b true < fI true) → (¬ fM b true = 0) → (i ≤ 52) → (i = 0 ∨ fM b true * 2 ^ (i - 1) < 4503599627370496) → va_K D classes [] s → va_P D classes [(h0, .inr (5, [.int (iZ (0)), .ref au, .ref al, .ref av, .ref ao, .ref ah, .ref ar, .ref ap, .int (iZ ((((t).length : Nat) : Int))), .int (bZ (fN b true = true)), .int (iZ (((fE b true : Nat) : Int))), .long (lN (fF b true)), .int (iZ (((fP true : Nat) : Int))), .int (iZ (((fMo true : Nat) : Int))), .long (lN (fM b true)), .int (iZ (fW b true)), .long (lN (mq)), .int (iZ (mz))]))] H → va_D A [(h0, .inr (5, [.int (iZ (0)), .ref au, .ref al, .ref av, .ref ao, .ref ah, .ref ar, .ref ap, .int (iZ ((((t).length : Nat) : Int))), .int (bZ (fN b true = true)), .int (iZ (((fE b true : Nat) : Int))), .long (lN (fF b true)), .int (iZ (((fP true : Nat) : Int))), .int (iZ (((fMo true : Nat) : Int))), .long (lN (fM b true)), .int (iZ (fW b true)), .long (lN (mq)), .int (iZ (mz))]))] → va_S A s.heap H locs → lv_has ls 8 [(0, .ref h0), (3, .long (lN (if b / fS true % 2 = 1 then fS false else 0))), (5, .long (lN (fM b true * 2 ^ i))), (7, .int (iZ (fW b true - ((i : Nat) : Int))))] → W p l e ({ frames := 1, cells := 0, slots := 0, locals := 23 } : Room) s m args below meth c H locs 0 0 (MQ below (Qc_Mo_widened D h0 th au al av ao ah ar ap t ng me mf mb mm ms mt mq mz b A) args s 0 0 A) (F0 m 98 ls []) := by
  obtain ⟨hx, hb, hml, hown, hts, hr, hlocks⟩ := id C0
  intro N
  induction N with
  | zero => intro i H locs ls hN; exact absurd hN (Nat.not_lt_zero _)
  | succ N ih =>
    intro i H locs ls hN hfin hnz hi h3 hK hP hD hS hl
    have hfe := fE_lt b true
    have hmo := fMo_lt true
    have hff := fF_lt b true
    have hpp := fP_pow true
    have hfi := fin_iff b true
    obtain ⟨hs1, hs2⟩ := sz_facts b true
    have hfn := fN_iff b true
    have hmm := fM_lt b true
    have hsgl : (if b / fS true % 2 = 1 then fS false else 0) < 18446744073709551616 := by split <;> decide
    have hfw := fW_fin hfin
    have hlt : fM b true * 2 ^ i < 9007199254740992 := wid_lt2 (by omega) h3
    refine lv_lload hx hb d_Mo_widened_98 (lv_at hl 2 rfl) ?_
    refine lv_ldc2 (v := (4503599627370496)) hx hb hown (hts _ kw_397_) d_Mo_widened_100 ?_
    refine nv_top (y := lN 4503599627370496) (by decide) ?_
    refine nv_lcmp_ge (tgt := 119) hx hb d_Mo_widened_103 d_Mo_widened_104 (by decide) (by omega) (by decide) (fun c103 => ?_) (fun c103 => ?_)
    · obtain ⟨kk, hk1, hk2, hk3⟩ := wid_shape hfin hnz (by omega) hlt
      have e52 : (2 : Nat) ^ 52 = 4503599627370496 := rfl
      refine lv_lload_n hx hb d_Mo_widened_119 rfl (lv_at hl 1 rfl) ?_
      refine lv_iload hx hb d_Mo_widened_120 (lv_at hl 3 rfl) ?_
      refine lv_sipush (v := iZ (1075)) hx hb d_Mo_widened_122 (by decide) ?_
      refine zv_iadd hx hb d_Mo_widened_125 ?_
      refine zv_top (y := iZ (((kk : Nat) : Int))) (congrArg iZ (by omega)) ?_
      refine nv_i2l (n := kk) hx hb d_Mo_widened_126 (by omega) (by omega) ?_
      refine lv_bipush (v := iZ (52)) hx hb d_Mo_widened_127 (by decide) ?_
      refine nv_lshl (k := 52) hx hb d_Mo_widened_129 (rfl) (by decide) ?_
      refine lv_lload hx hb d_Mo_widened_130 (lv_at hl 2 rfl) ?_
      refine nv_ladd hx hb d_Mo_widened_132 ?_
      refine lv_ldc2 (v := (4503599627370496)) hx hb hown (hts _ kw_397_) d_Mo_widened_133 ?_
      refine nv_top (y := lN 4503599627370496) (by decide) ?_
      refine nv_lsub hx hb d_Mo_widened_136 (by omega) ?_
      refine nv_lor hx hb d_Mo_widened_137 (by omega) (by omega) ?_
      refine nv_top (y := lN (widF b)) (congrArg lN (by rw [hk3]; exact sg_or63 (by omega))) ?_
      exact ew_l () hx hb hr hlocks d_Mo_widened_138 (show lN (widF b) = lN (widF b) from rfl) (hP.sub (ws' := [(h0, .inr (5, [.int (iZ (0)), .ref au, .ref al, .ref av, .ref ao, .ref ah, .ref ar, .ref ap, .int (iZ ((((t).length : Nat) : Int))), .int (bZ (fN b true = true)), .int (iZ (((fE b true : Nat) : Int))), .long (lN (fF b true)), .int (iZ (((fP true : Nat) : Int))), .int (iZ (((fMo true : Nat) : Int))), .long (lN (fM b true)), .int (iZ (fW b true)), .long (lN (mq)), .int (iZ (mz))]))]) [0] rfl) (hD.sub (ws' := [(h0, .inr (5, [.int (iZ (0)), .ref au, .ref al, .ref av, .ref ao, .ref ah, .ref ar, .ref ap, .int (iZ ((((t).length : Nat) : Int))), .int (bZ (fN b true = true)), .int (iZ (((fE b true : Nat) : Int))), .long (lN (fF b true)), .int (iZ (((fP true : Nat) : Int))), .int (iZ (((fMo true : Nat) : Int))), .long (lN (fM b true)), .int (iZ (fW b true)), .long (lN (mq)), .int (iZ (mz))]))]) [0] (by decide) rfl) (hK.sub (tys' := []) [] rfl) hS (Nat.le_of_ble_eq_true rfl) (Nat.le_of_ble_eq_true rfl)
    · have hi5 : i < 52 := wid_i hnz (by omega)
      refine lv_lload hx hb d_Mo_widened_107 (lv_at hl 2 rfl) ?_
      refine lv_iconst (v := iZ (1)) hx hb d_Mo_widened_109 rfl ?_
      refine nv_lshl (k := 1) hx hb d_Mo_widened_110 (rfl) (by decide) ?_
      refine nv_top (y := lN (fM b true * 2 ^ (i + 1))) (congrArg lN (by rw [Nat.mul_assoc, ← Nat.pow_add])) ?_
      refine lv_lstore (lv' := [(5, .long (lN (fM b true * 2 ^ (i + 1)))), (0, .ref h0), (3, .long (lN (if b / fS true % 2 = 1 then fS false else 0))), (7, .int (iZ (fW b true - ((i : Nat) : Int))))]) hx hb d_Mo_widened_111 hl (by decide) rfl (fun ls hl => ?_)
      refine lv_iinc (v := iZ (fW b true - ((i + 1 : Nat) : Int))) (lv' := [(7, .int (iZ (fW b true - ((i + 1 : Nat) : Int)))), (5, .long (lN (fM b true * 2 ^ (i + 1)))), (0, .ref h0), (3, .long (lN (if b / fS true % 2 = 1 then fS false else 0)))]) hx hb d_Mo_widened_113 hl (k := 3) rfl ((iZ_add _ _).trans (congrArg iZ (by omega))) (by decide) rfl (fun ls hl => ?_)
      refine lv_goto (tgt := 98) hx hb d_Mo_widened_116 (by decide) ?_
      exact ih (i + 1) _ _ _ (by omega) (hfin) (hnz) (by omega) (Or.inr (by rw [Nat.add_sub_cancel]; omega)) (hK.sub [] rfl) (hP.sub [0] rfl) (hD.sub [0] (by decide) rfl) hS (lv_sub hl [2, 3, 1, 0] rfl)
set_option maxHeartbeats 4000000 in
set_option maxRecDepth 100000 in
theorem lp_Mo_widened_46 {p : Program} {l : Launch} {e : Env} {s : State} {m : MethodId} {args : Array Value} {below : List Frame} {meth : Method} {c : Code} {A : Nat → Prop} {D : va_G} {Z : Nat → Nat} (h0 : Nat) (th : Int) (au : Nat) (al : Nat) (av : Nat) (ao : Nat) (ah : Nat) (ar : Nat) (ap : Nat) (t : List Nat) (ng : Bool) (me : Nat) (mf : Nat) (mb : Nat) (mm : Nat) (ms : Nat) (mt : Int) (mq : Nat) (mz : Int) (b : Nat) (hb9 : b < 18446744073709551616) (hok : b < 4294967296) (C0 : cxA p s m args meth c b_Mo_widened 8 R_Mo (some .long)) (hA : ∀ q : Nat, s.heap.size ≤ q → A q) (hE : Ev Z A s s.heap) : ∀ (N : Nat)  (H : Heap) (locs : List Loc) (ls : Array Slot), 0 < N → va_K D classes [] s → va_P D classes [(h0, .inr (5, [.int (iZ (0)), .ref au, .ref al, .ref av, .ref ao, .ref ah, .ref ar, .ref ap, .int (iZ ((((t).length : Nat) : Int))), .int (bZ (fN b true = true)), .int (iZ (((fE b true : Nat) : Int))), .long (lN (fF b true)), .int (iZ (((fP true : Nat) : Int))), .int (iZ (((fMo true : Nat) : Int))), .long (lN (fM b true)), .int (iZ (fW b true)), .long (lN (mq)), .int (iZ (mz))]))] H → va_D A [(h0, .inr (5, [.int (iZ (0)), .ref au, .ref al, .ref av, .ref ao, .ref ah, .ref ar, .ref ap, .int (iZ ((((t).length : Nat) : Int))), .int (bZ (fN b true = true)), .int (iZ (((fE b true : Nat) : Int))), .long (lN (fF b true)), .int (iZ (((fP true : Nat) : Int))), .int (iZ (((fMo true : Nat) : Int))), .long (lN (fM b true)), .int (iZ (fW b true)), .long (lN (mq)), .int (iZ (mz))]))] → va_S A s.heap H locs → lv_has ls 8 [(0, .ref h0), (1, .long (lN (b)))] → W p l e ({ frames := 1, cells := 0, slots := 0, locals := 23 } : Room) s m args below meth c H locs 0 0 (MQ below (Qc_Mo_widened D h0 th au al av ao ah ar ap t ng me mf mb mm ms mt mq mz b A) args s 0 0 A) (F0 m 46 ls [.long (lN (if b / fS true % 2 = 1 then fS false else 0))]) := by
  obtain ⟨hx, hb, hml, hown, hts, hr, hlocks⟩ := id C0
  intro N
  induction N with
  | zero => intro  H locs ls hN; exact absurd hN (Nat.not_lt_zero _)
  | succ N ih =>
    intro  H locs ls hN  hK hP hD hS hl
    have hfe := fE_lt b true
    have hmo := fMo_lt true
    have hff := fF_lt b true
    have hpp := fP_pow true
    have hfi := fin_iff b true
    obtain ⟨hs1, hs2⟩ := sz_facts b true
    have hfn := fN_iff b true
    have hmm := fM_lt b true
    have hsgl : (if b / fS true % 2 = 1 then fS false else 0) < 18446744073709551616 := by split <;> decide
    refine lv_lstore_n (lv' := [(3, .long (lN (if b / fS true % 2 = 1 then fS false else 0))), (0, .ref h0), (1, .long (lN (b)))]) hx hb d_Mo_widened_46 rfl hl (by decide) rfl (fun ls hl => ?_)
    refine lv_aload_n hx hb d_Mo_widened_47 rfl (lv_at hl 1 rfl) ?_
    refine kg_i (kr_V (C0 := R_Mo) (ci := 5) (i0 := 0) (As := []) (rest := []) C0 (c_Mo_isFinite l D Z _ h0 0 au al av ao ah ar ap t (fN b true) (fE b true) (fF b true) (fP true) (fMo true) (fM b true) (fW b true) mq mz (by omega) (by omega)) q_y_Mo_isFinite kw_369_ kw_370_ kw_371_ kw_314_ hd_y_Mo_isFinite rfl rfl ⟨Nat.le_of_ble_eq_true rfl, Nat.le_of_ble_eq_true rfl⟩ (hP.sub (ws' := [(h0, .inr (5, [.int (iZ (0)), .ref au, .ref al, .ref av, .ref ao, .ref ah, .ref ar, .ref ap, .int (iZ ((((t).length : Nat) : Int))), .int (bZ ((fN b true) = true)), .int (iZ ((((fE b true) : Nat) : Int))), .long (lN ((fF b true))), .int (iZ ((((fP true) : Nat) : Int))), .int (iZ ((((fMo true) : Nat) : Int))), .long (lN ((fM b true))), .int (iZ ((fW b true))), .long (lN (mq)), .int (iZ (mz))]))]) [0] rfl) (hD.sub (ws' := [(h0, .inr (5, [.int (iZ (0)), .ref au, .ref al, .ref av, .ref ao, .ref ah, .ref ar, .ref ap, .int (iZ ((((t).length : Nat) : Int))), .int (bZ ((fN b true) = true)), .int (iZ ((((fE b true) : Nat) : Int))), .long (lN ((fF b true))), .int (iZ ((((fP true) : Nat) : Int))), .int (iZ ((((fMo true) : Nat) : Int))), .long (lN ((fM b true))), .int (iZ ((fW b true))), .long (lN (mq)), .int (iZ (mz))]))]) [0] (by decide) rfl) (hK.sub (tys' := []) [] rfl) hE hS (va_free (wc := [(h0, .inr (5, [.int (iZ (0)), .ref au, .ref al, .ref av, .ref ao, .ref ah, .ref ar, .ref ap, .int (iZ ((((t).length : Nat) : Int))), .int (bZ ((fN b true) = true)), .int (iZ ((((fE b true) : Nat) : Int))), .long (lN ((fF b true))), .int (iZ ((((fP true) : Nat) : Int))), .int (iZ ((((fMo true) : Nat) : Int))), .long (lN ((fM b true))), .int (iZ ((fW b true))), .long (lN (mq)), .int (iZ (mz))]))]) hD hS hA [0] rfl) rfl rfl rfl hl.1 rfl (Nat.le_of_ble_eq_true rfl) d_Mo_widened_48 ⟨Nat.le_of_ble_eq_true rfl, Nat.le_of_ble_eq_true rfl⟩) (fun r hr1 => ?_)
    obtain rfl : r = bZ ((fE b true) < (fMo true)) := hr1
    refine bv_if_ne (tgt := 75) hx hb d_Mo_widened_51 (by decide) (fun c51 => ?_) (fun c51 => ?_)
    · have hfin : fSz b true < fI true := hfi.mp c51
      refine lv_aload_n hx hb d_Mo_widened_75 rfl (lv_at hl 1 rfl) ?_
      refine va_get (D := D) (ci := 5) (v := .long (lN (fM b true))) (C := R_Mo) (T := F_Mo) (N := 18) hx hb hts i_Mo hown hK hP 0 rfl rfl 14 (by decide) (hts _ kw_306_) (fun _ h9 => h9) rfl d_Mo_widened_76 ?_
      refine lv_lconst (v := lN 0) hx hb d_Mo_widened_79 rfl ?_
      refine nv_lcmp_ne (tgt := 86) hx hb d_Mo_widened_80 d_Mo_widened_81 (by decide) (by omega) (by decide) (fun c80 => ?_) (fun c80 => ?_)
      · have hnz : ¬ fM b true = 0 := c80
        refine lv_aload_n hx hb d_Mo_widened_86 rfl (lv_at hl 1 rfl) ?_
        refine va_get (D := D) (ci := 5) (v := .long (lN (fM b true))) (C := R_Mo) (T := F_Mo) (N := 18) hx hb hts i_Mo hown hK hP 0 rfl rfl 14 (by decide) (hts _ kw_306_) (fun _ h9 => h9) rfl d_Mo_widened_87 ?_
        refine nv_top (y := lN (fM b true * 2 ^ 0)) (congrArg lN (by rw [Nat.pow_zero, Nat.mul_one])) ?_
        refine lv_lstore (lv' := [(5, .long (lN (fM b true * 2 ^ 0))), (3, .long (lN (if b / fS true % 2 = 1 then fS false else 0))), (0, .ref h0), (1, .long (lN (b)))]) hx hb d_Mo_widened_90 hl (by decide) rfl (fun ls hl => ?_)
        refine lv_aload_n hx hb d_Mo_widened_92 rfl (lv_at hl 2 rfl) ?_
        refine va_get (D := D) (ci := 5) (v := .int (iZ (fW b true))) (C := R_Mo) (T := F_Mo) (N := 18) hx hb hts i_Mo hown hK hP 0 rfl rfl 15 (by decide) (hts _ kw_305_) (fun _ h9 => h9) rfl d_Mo_widened_93 ?_
        refine zv_top (y := iZ (fW b true - ((0 : Nat) : Int))) (congrArg iZ (by omega)) ?_
        refine lv_istore (lv' := [(7, .int (iZ (fW b true - ((0 : Nat) : Int)))), (5, .long (lN (fM b true * 2 ^ 0))), (3, .long (lN (if b / fS true % 2 = 1 then fS false else 0))), (0, .ref h0), (1, .long (lN (b)))]) hx hb d_Mo_widened_96 hl (by decide) rfl (fun ls hl => ?_)
        exact lp_Mo_widened_98 h0 th au al av ao ah ar ap t ng me mf mb mm ms mt mq mz b hb9 hok C0 hA hE (53 - 0 + 1) 0 _ _ _ (Nat.lt_succ_self _) (hfin) (hnz) (by decide) (Or.inl rfl) (hK.sub [] rfl) (hP.sub [0] rfl) (hD.sub [0] (by decide) rfl) hS (lv_sub hl [3, 2, 1, 0] rfl)
      · refine lv_lload_n hx hb d_Mo_widened_84 rfl (lv_at hl 0 rfl) ?_
        exact ew_l () hx hb hr hlocks d_Mo_widened_85 (show lN (if b / fS true % 2 = 1 then fS false else 0) = lN (widF b) from congrArg lN (by rw [widF_zero (wid_z c80), Nat.add_zero])) (hP.sub (ws' := [(h0, .inr (5, [.int (iZ (0)), .ref au, .ref al, .ref av, .ref ao, .ref ah, .ref ar, .ref ap, .int (iZ ((((t).length : Nat) : Int))), .int (bZ (fN b true = true)), .int (iZ (((fE b true : Nat) : Int))), .long (lN (fF b true)), .int (iZ (((fP true : Nat) : Int))), .int (iZ (((fMo true : Nat) : Int))), .long (lN (fM b true)), .int (iZ (fW b true)), .long (lN (mq)), .int (iZ (mz))]))]) [0] rfl) (hD.sub (ws' := [(h0, .inr (5, [.int (iZ (0)), .ref au, .ref al, .ref av, .ref ao, .ref ah, .ref ar, .ref ap, .int (iZ ((((t).length : Nat) : Int))), .int (bZ (fN b true = true)), .int (iZ (((fE b true : Nat) : Int))), .long (lN (fF b true)), .int (iZ (((fP true : Nat) : Int))), .int (iZ (((fMo true : Nat) : Int))), .long (lN (fM b true)), .int (iZ (fW b true)), .long (lN (mq)), .int (iZ (mz))]))]) [0] (by decide) rfl) (hK.sub (tys' := []) [] rfl) hS (Nat.le_of_ble_eq_true rfl) (Nat.le_of_ble_eq_true rfl)
    · have hs3 := hs2 c51
      refine lv_aload_n hx hb d_Mo_widened_54 rfl (lv_at hl 1 rfl) ?_
      refine va_get (D := D) (ci := 5) (v := .long (lN (fF b true))) (C := R_Mo) (T := F_Mo) (N := 18) hx hb hts i_Mo hown hK hP 0 rfl rfl 11 (by decide) (hts _ kw_311_) (fun _ h9 => h9) rfl d_Mo_widened_55 ?_
      refine lv_lconst (v := lN 0) hx hb d_Mo_widened_58 rfl ?_
      refine nv_lcmp_eq (tgt := 69) hx hb d_Mo_widened_59 d_Mo_widened_60 (by decide) (by omega) (by decide) (fun c59 => ?_) (fun c59 => ?_)
      · refine lv_lload_n hx hb d_Mo_widened_69 rfl (lv_at hl 0 rfl) ?_
        refine lv_ldc2 (v := (9218868437227405312)) hx hb hown (hts _ kw_398_) d_Mo_widened_70 ?_
        refine nv_top (y := lN 9218868437227405312) (by decide) ?_
        refine nv_lor hx hb d_Mo_widened_73 (by omega) (by decide) ?_
        refine nv_top (y := lN (widF b)) (congrArg lN (by rw [widF_inf (hs3.1.mp c59)]; exact sg_or63 (by decide))) ?_
        exact ew_l () hx hb hr hlocks d_Mo_widened_74 (show lN (widF b) = lN (widF b) from rfl) (hP.sub (ws' := [(h0, .inr (5, [.int (iZ (0)), .ref au, .ref al, .ref av, .ref ao, .ref ah, .ref ar, .ref ap, .int (iZ ((((t).length : Nat) : Int))), .int (bZ (fN b true = true)), .int (iZ (((fE b true : Nat) : Int))), .long (lN (fF b true)), .int (iZ (((fP true : Nat) : Int))), .int (iZ (((fMo true : Nat) : Int))), .long (lN (fM b true)), .int (iZ (fW b true)), .long (lN (mq)), .int (iZ (mz))]))]) [0] rfl) (hD.sub (ws' := [(h0, .inr (5, [.int (iZ (0)), .ref au, .ref al, .ref av, .ref ao, .ref ah, .ref ar, .ref ap, .int (iZ ((((t).length : Nat) : Int))), .int (bZ (fN b true = true)), .int (iZ (((fE b true : Nat) : Int))), .long (lN (fF b true)), .int (iZ (((fP true : Nat) : Int))), .int (iZ (((fMo true : Nat) : Int))), .long (lN (fM b true)), .int (iZ (fW b true)), .long (lN (mq)), .int (iZ (mz))]))]) [0] (by decide) rfl) (hK.sub (tys' := []) [] rfl) hS (Nat.le_of_ble_eq_true rfl) (Nat.le_of_ble_eq_true rfl)
      · refine lv_ldc2 (v := (9221120237041090560)) hx hb hown (hts _ kw_399_) d_Mo_widened_63 ?_
        refine nv_top (y := lN 9221120237041090560) (by decide) ?_
        refine lv_goto (tgt := 74) hx hb d_Mo_widened_66 (by decide) ?_
        exact ew_l () hx hb hr hlocks d_Mo_widened_74 (show lN (9221120237041090560) = lN (widF b) from congrArg lN (widF_nan (by omega)).symm) (hP.sub (ws' := [(h0, .inr (5, [.int (iZ (0)), .ref au, .ref al, .ref av, .ref ao, .ref ah, .ref ar, .ref ap, .int (iZ ((((t).length : Nat) : Int))), .int (bZ (fN b true = true)), .int (iZ (((fE b true : Nat) : Int))), .long (lN (fF b true)), .int (iZ (((fP true : Nat) : Int))), .int (iZ (((fMo true : Nat) : Int))), .long (lN (fM b true)), .int (iZ (fW b true)), .long (lN (mq)), .int (iZ (mz))]))]) [0] rfl) (hD.sub (ws' := [(h0, .inr (5, [.int (iZ (0)), .ref au, .ref al, .ref av, .ref ao, .ref ah, .ref ar, .ref ap, .int (iZ ((((t).length : Nat) : Int))), .int (bZ (fN b true = true)), .int (iZ (((fE b true : Nat) : Int))), .long (lN (fF b true)), .int (iZ (((fP true : Nat) : Int))), .int (iZ (((fMo true : Nat) : Int))), .long (lN (fM b true)), .int (iZ (fW b true)), .long (lN (mq)), .int (iZ (mz))]))]) [0] (by decide) rfl) (hK.sub (tys' := []) [] rfl) hS (Nat.le_of_ble_eq_true rfl) (Nat.le_of_ble_eq_true rfl)
set_option maxHeartbeats 4000000 in
set_option maxRecDepth 100000 in
theorem c_Mo_widened (l : Launch) (D : va_G) (Z : Nat → Nat) (hz9 : Nat) (h0 : Nat) (th : Int) (au : Nat) (al : Nat) (av : Nat) (ao : Nat) (ah : Nat) (ar : Nat) (ap : Nat) (t : List Nat) (ng : Bool) (me : Nat) (mf : Nat) (mb : Nat) (mm : Nat) (ms : Nat) (mt : Int) (mq : Nat) (mz : Int) (b : Nat) (hb9 : b < 18446744073709551616) (hok : b < 4294967296) : Met l y_Mo_widened (.code y_Mo_widened b_Mo_widened 8 (some .long) :: gT) ({ frames := 1, cells := 0, slots := 0, locals := 23 } : Room) (va_Pc [.ref h0, .long (lN (b))] (cpre D Z [(h0, .inr (5, [.int (iZ (th)), .ref au, .ref al, .ref av, .ref ao, .ref ah, .ref ar, .ref ap, .int (iZ ((((t).length : Nat) : Int))), .int (bZ (ng = true)), .int (iZ (((me : Nat) : Int))), .long (lN (mf)), .int (iZ (((mb : Nat) : Int))), .int (iZ (((mm : Nat) : Int))), .long (lN (ms)), .int (iZ (mt)), .long (lN (mq)), .int (iZ (mz))]))] [] hz9)) (Qc_Mo_widened D h0 th au al av ao ah ar ap t ng me mf mb mm ms mt mq mz b (va_A [(h0, .inr (5, [.int (iZ (th)), .ref au, .ref al, .ref av, .ref ao, .ref ah, .ref ar, .ref ap, .int (iZ ((((t).length : Nat) : Int))), .int (bZ (ng = true)), .int (iZ (((me : Nat) : Int))), .long (lN (mf)), .int (iZ (((mb : Nat) : Int))), .int (iZ (((mm : Nat) : Int))), .long (lN (ms)), .int (iZ (mt)), .long (lN (mq)), .int (iZ (mz))]))] hz9)) 0 0 (va_A [(h0, .inr (5, [.int (iZ (th)), .ref au, .ref al, .ref av, .ref ao, .ref ah, .ref ar, .ref ap, .int (iZ ((((t).length : Nat) : Int))), .int (bZ (ng = true)), .int (iZ (((me : Nat) : Int))), .long (lN (mf)), .int (iZ (((mb : Nat) : Int))), .int (iZ (((mm : Nat) : Int))), .long (lN (ms)), .int (iZ (mt)), .long (lN (mq)), .int (iZ (mz))]))] hz9) := by
  refine met_go (Qf := Qc_Mo_widened D h0 th au al av ao ah ar ap t ng me mf mb mm ms mt mq mz b) (ff := fun A => A) (by decide) ?_
  intro p e s m below meth c A C0 hin hsz9 hA hE hK hP hD
  obtain ⟨hx, hb, hml, hown, hts, hr, hlocks⟩ := id C0
  have hS : va_S A s.heap s.heap [] := va_S.rf
  have hl := lv_entry [.ref h0, .long (lN (b))] (n := 8) (Nat.le_of_ble_eq_true rfl)
  rw [lg_entry_eq]
  generalize (lg_sl [.ref h0, .long (lN (b))] ++ List.replicate (8 - (lg_sl [.ref h0, .long (lN (b))]).length) Slot.unset).toArray = ls at hl ⊢
  have hl : lv_has ls 8 [(0, .ref h0), (1, .long (lN (b)))] := hl
  have hfe := fE_lt b true
  have hmo := fMo_lt true
  have hff := fF_lt b true
  have hpp := fP_pow true
  have hfi := fin_iff b true
  obtain ⟨hs1, hs2⟩ := sz_facts b true
  have hfn := fN_iff b true
  have hmm := fM_lt b true
  have hsgl : (if b / fS true % 2 = 1 then fS false else 0) < 18446744073709551616 := by split <;> decide
  refine lv_aload_n hx hb d_Mo_widened_0 rfl (lv_at hl 0 rfl) ?_
  refine lv_lload_n hx hb d_Mo_widened_1 rfl (lv_at hl 1 rfl) ?_
  refine lv_iconst (v := iZ (1)) hx hb d_Mo_widened_2 rfl ?_
  refine zv_top (y := bZ (true = true)) ((bZ_t rfl).symm) ?_
  refine kg_i (kr_S (As := [.long (lN (b)), .int (bZ (true = true))]) (rest := [.ref h0]) C0 (c_Mo_isWrong l D Z _ b true (by assumption)) q_y_Mo_isWrong kw_365_ kw_364_ kw_314_ hd_y_Mo_isWrong rfl rfl ⟨Nat.le_of_ble_eq_true rfl, Nat.le_of_ble_eq_true rfl⟩ (hP.sub (ws' := []) [] rfl) (hD.sub (ws' := []) [] (by decide) rfl) (hK.sub (tys' := []) [] rfl) hE hS (va_free (wc := []) hD hS hA [] rfl) rfl hl.1 rfl (Nat.le_of_ble_eq_true rfl) d_Mo_widened_3 ⟨Nat.le_of_ble_eq_true rfl, Nat.le_of_ble_eq_true rfl⟩) (fun r hr1 => ?_)
  obtain rfl : r = bZ (true = true ∧ ¬ b < 4294967296) := hr1
  refine bv_if_eq (tgt := 13) hx hb d_Mo_widened_6 (by decide) (fun c6 => ?_) (fun c6 => absurd c6 (fun q => q.2 hok))
  refine lv_iconst (v := iZ (0)) hx hb d_Mo_widened_13 rfl ?_
  refine va_put (D := D) (ci := 5) (v := .int (iZ (0))) (ty := .int) (C := R_Mo) (T := F_Mo) (N := 18) hx hb hts i_Mo t_Mo t_Mo_ok n_Mo hown hK hP hD hS 0 rfl rfl 0 (by decide) (hts _ kw_304_) (fun _ h9 => h9) rfl (by decide +kernel) rfl rfl (Nat.le_of_ble_eq_true rfl) d_Mo_widened_14 (fun H locs hP hD hS => ?_)
  have hP : va_P D classes [(h0, .inr (5, [.int (iZ (0)), .ref au, .ref al, .ref av, .ref ao, .ref ah, .ref ar, .ref ap, .int (iZ ((((t).length : Nat) : Int))), .int (bZ (ng = true)), .int (iZ (((me : Nat) : Int))), .long (lN (mf)), .int (iZ (((mb : Nat) : Int))), .int (iZ (((mm : Nat) : Int))), .long (lN (ms)), .int (iZ (mt)), .long (lN (mq)), .int (iZ (mz))]))] H := hP
  have hD : va_D A [(h0, .inr (5, [.int (iZ (0)), .ref au, .ref al, .ref av, .ref ao, .ref ah, .ref ar, .ref ap, .int (iZ ((((t).length : Nat) : Int))), .int (bZ (ng = true)), .int (iZ (((me : Nat) : Int))), .long (lN (mf)), .int (iZ (((mb : Nat) : Int))), .int (iZ (((mm : Nat) : Int))), .long (lN (ms)), .int (iZ (mt)), .long (lN (mq)), .int (iZ (mz))]))] := hD
  refine lv_aload_n hx hb d_Mo_widened_17 rfl (lv_at hl 0 rfl) ?_
  refine va_get (D := D) (ci := 5) (v := .int (iZ (0))) (C := R_Mo) (T := F_Mo) (N := 18) hx hb hts i_Mo hown hK hP 0 rfl rfl 0 (by decide) (hts _ kw_304_) (fun _ h9 => h9) rfl d_Mo_widened_18 ?_
  refine zv_if_le (tgt := 26) hx hb d_Mo_widened_21 (by decide) (by omega) (fun c21 => ?_) (fun c21 => absurd c21 (by decide))
  refine lv_aload_n hx hb d_Mo_widened_26 rfl (lv_at hl 0 rfl) ?_
  refine lv_lload_n hx hb d_Mo_widened_27 rfl (lv_at hl 1 rfl) ?_
  refine lv_iconst (v := iZ (1)) hx hb d_Mo_widened_28 rfl ?_
  refine zv_top (y := bZ (true = true)) ((bZ_t rfl).symm) ?_
  refine kw_v (wr := []) (tr := []) (kr_V (C0 := R_Mo) (ci := 5) (i0 := 0) (As := [.long (lN (b)), .int (bZ (true = true))]) (rest := []) C0 (c_Mo_open l D Z _ h0 0 au al av ao ah ar ap t ng me mf mb mm ms mt mq mz b true (by assumption) (fun _ => hok)) q_y_Mo_open kw_366_ kw_367_ kw_368_ kw_314_ hd_y_Mo_open rfl rfl ⟨Nat.le_of_ble_eq_true rfl, Nat.le_of_ble_eq_true rfl⟩ (hP.sub (ws' := [(h0, .inr (5, [.int (iZ (0)), .ref au, .ref al, .ref av, .ref ao, .ref ah, .ref ar, .ref ap, .int (iZ ((((t).length : Nat) : Int))), .int (bZ (ng = true)), .int (iZ (((me : Nat) : Int))), .long (lN (mf)), .int (iZ (((mb : Nat) : Int))), .int (iZ (((mm : Nat) : Int))), .long (lN (ms)), .int (iZ (mt)), .long (lN (mq)), .int (iZ (mz))]))]) [0] rfl) (hD.sub (ws' := [(h0, .inr (5, [.int (iZ (0)), .ref au, .ref al, .ref av, .ref ao, .ref ah, .ref ar, .ref ap, .int (iZ ((((t).length : Nat) : Int))), .int (bZ (ng = true)), .int (iZ (((me : Nat) : Int))), .long (lN (mf)), .int (iZ (((mb : Nat) : Int))), .int (iZ (((mm : Nat) : Int))), .long (lN (ms)), .int (iZ (mt)), .long (lN (mq)), .int (iZ (mz))]))]) [0] (by decide) rfl) (hK.sub (tys' := []) [] rfl) hE hS (va_free (wc := [(h0, .inr (5, [.int (iZ (0)), .ref au, .ref al, .ref av, .ref ao, .ref ah, .ref ar, .ref ap, .int (iZ ((((t).length : Nat) : Int))), .int (bZ (ng = true)), .int (iZ (((me : Nat) : Int))), .long (lN (mf)), .int (iZ (((mb : Nat) : Int))), .int (iZ (((mm : Nat) : Int))), .long (lN (ms)), .int (iZ (mt)), .long (lN (mq)), .int (iZ (mz))]))]) hD hS hA [0] rfl) rfl rfl rfl hl.1 rfl (Nat.le_of_ble_eq_true rfl) d_Mo_widened_29 ⟨Nat.le_of_ble_eq_true rfl, Nat.le_of_ble_eq_true rfl⟩) hP hD hK hS hA [0] [] [] rfl rfl (by decide) (by decide) rfl (fun u H locs hpost hP hD hK hS => ?_)
  have hP : va_P D classes [(h0, .inr (5, [.int (iZ (0)), .ref au, .ref al, .ref av, .ref ao, .ref ah, .ref ar, .ref ap, .int (iZ ((((t).length : Nat) : Int))), .int (bZ (fN b true = true)), .int (iZ (((fE b true : Nat) : Int))), .long (lN (fF b true)), .int (iZ (((fP true : Nat) : Int))), .int (iZ (((fMo true : Nat) : Int))), .long (lN (fM b true)), .int (iZ (fW b true)), .long (lN (mq)), .int (iZ (mz))]))] H := hP
  have hD : va_D A [(h0, .inr (5, [.int (iZ (0)), .ref au, .ref al, .ref av, .ref ao, .ref ah, .ref ar, .ref ap, .int (iZ ((((t).length : Nat) : Int))), .int (bZ (fN b true = true)), .int (iZ (((fE b true : Nat) : Int))), .long (lN (fF b true)), .int (iZ (((fP true : Nat) : Int))), .int (iZ (((fMo true : Nat) : Int))), .long (lN (fM b true)), .int (iZ (fW b true)), .long (lN (mq)), .int (iZ (mz))]))] := hD
  have hK : va_K D classes [] s := hK
  refine lv_aload_n hx hb d_Mo_widened_32 rfl (lv_at hl 0 rfl) ?_
  refine va_get (D := D) (ci := 5) (v := .int (bZ (fN b true = true))) (C := R_Mo) (T := F_Mo) (N := 18) hx hb hts i_Mo hown hK hP 0 rfl rfl 9 (by decide) (hts _ kw_308_) (fun _ h9 => h9) rfl d_Mo_widened_33 ?_
  refine bv_if_eq (tgt := 45) hx hb d_Mo_widened_36 (by decide) (fun c36 => ?_) (fun c36 => ?_)
  · refine lv_lconst (v := lN 0) hx hb d_Mo_widened_45 rfl ?_
    refine nv_top (y := lN (if b / fS true % 2 = 1 then fS false else 0)) (congrArg lN (by rw [if_neg (fun q => c36 (hfn.mpr q))])) ?_
    exact lp_Mo_widened_46 h0 th au al av ao ah ar ap t ng me mf mb mm ms mt mq mz b hb9 hok C0 hA hE (0 + 1)  _ _ _ (Nat.lt_succ_self _)  (hK.sub [] rfl) (hP.sub [0] rfl) (hD.sub [0] (by decide) rfl) hS (lv_sub hl [0, 1] rfl)
  · refine lv_ldc2 (v := (-9223372036854775808)) hx hb hown (hts _ kw_400_) d_Mo_widened_39 ?_
    refine nv_top (y := lN 9223372036854775808) (by decide) ?_
    refine nv_top (y := lN (if b / fS true % 2 = 1 then fS false else 0)) (congrArg lN (by rw [if_pos (hfn.mp c36)]; rfl)) ?_
    refine lv_goto (tgt := 46) hx hb d_Mo_widened_42 (by decide) ?_
    exact lp_Mo_widened_46 h0 th au al av ao ah ar ap t ng me mf mb mm ms mt mq mz b hb9 hok C0 hA hE (0 + 1)  _ _ _ (Nat.lt_succ_self _)  (hK.sub [] rfl) (hP.sub [0] rfl) (hD.sub [0] (by decide) rfl) hS (lv_sub hl [0, 1] rfl)
abbrev Qc_Mo_widened_w (D : va_G) (h0 : Nat) (th : Int) (au : Nat) (al : Nat) (av : Nat) (ao : Nat) (ah : Nat) (ar : Nat) (ap : Nat) (t : List Nat) (ng : Bool) (me : Nat) (mf : Nat) (mb : Nat) (mm : Nat) (ms : Nat) (mt : Int) (mq : Nat) (mz : Int) (b : Nat) (A : Nat → Prop) : Array Value → State → Outcome → State → Prop := va_Ql (fun (r : Int64) (u : Unit) => r = lN (0)) (fun (u : Unit) t9 => cpost D A [(h0, .inr (5, [.int (iZ (1)), .ref au, .ref al, .ref av, .ref ao, .ref ah, .ref ar, .ref ap, .int (iZ ((((t).length : Nat) : Int))), .int (bZ (ng = true)), .int (iZ (((me : Nat) : Int))), .long (lN (mf)), .int (iZ (((mb : Nat) : Int))), .int (iZ (((mm : Nat) : Int))), .long (lN (ms)), .int (iZ (mt)), .long (lN (mq)), .int (iZ (mz))]))] [] t9) A
set_option maxHeartbeats 4000000 in
set_option maxRecDepth 100000 in
theorem c_Mo_widened_w (l : Launch) (D : va_G) (Z : Nat → Nat) (hz9 : Nat) (h0 : Nat) (th : Int) (au : Nat) (al : Nat) (av : Nat) (ao : Nat) (ah : Nat) (ar : Nat) (ap : Nat) (t : List Nat) (ng : Bool) (me : Nat) (mf : Nat) (mb : Nat) (mm : Nat) (ms : Nat) (mt : Int) (mq : Nat) (mz : Int) (b : Nat) (hb9 : b < 18446744073709551616) (hno : ¬ b < 4294967296) : Met l y_Mo_widened (.code y_Mo_widened b_Mo_widened 8 (some .long) :: gT) ({ frames := 1, cells := 0, slots := 0, locals := 22 } : Room) (va_Pc [.ref h0, .long (lN (b))] (cpre D Z [(h0, .inr (5, [.int (iZ (th)), .ref au, .ref al, .ref av, .ref ao, .ref ah, .ref ar, .ref ap, .int (iZ ((((t).length : Nat) : Int))), .int (bZ (ng = true)), .int (iZ (((me : Nat) : Int))), .long (lN (mf)), .int (iZ (((mb : Nat) : Int))), .int (iZ (((mm : Nat) : Int))), .long (lN (ms)), .int (iZ (mt)), .long (lN (mq)), .int (iZ (mz))]))] [] hz9)) (Qc_Mo_widened_w D h0 th au al av ao ah ar ap t ng me mf mb mm ms mt mq mz b (va_A [(h0, .inr (5, [.int (iZ (th)), .ref au, .ref al, .ref av, .ref ao, .ref ah, .ref ar, .ref ap, .int (iZ ((((t).length : Nat) : Int))), .int (bZ (ng = true)), .int (iZ (((me : Nat) : Int))), .long (lN (mf)), .int (iZ (((mb : Nat) : Int))), .int (iZ (((mm : Nat) : Int))), .long (lN (ms)), .int (iZ (mt)), .long (lN (mq)), .int (iZ (mz))]))] hz9)) 0 0 (va_A [(h0, .inr (5, [.int (iZ (th)), .ref au, .ref al, .ref av, .ref ao, .ref ah, .ref ar, .ref ap, .int (iZ ((((t).length : Nat) : Int))), .int (bZ (ng = true)), .int (iZ (((me : Nat) : Int))), .long (lN (mf)), .int (iZ (((mb : Nat) : Int))), .int (iZ (((mm : Nat) : Int))), .long (lN (ms)), .int (iZ (mt)), .long (lN (mq)), .int (iZ (mz))]))] hz9) := by
  refine met_go (Qf := Qc_Mo_widened_w D h0 th au al av ao ah ar ap t ng me mf mb mm ms mt mq mz b) (ff := fun A => A) (by decide) ?_
  intro p e s m below meth c A C0 hin hsz9 hA hE hK hP hD
  obtain ⟨hx, hb, hml, hown, hts, hr, hlocks⟩ := id C0
  have hS : va_S A s.heap s.heap [] := va_S.rf
  have hl := lv_entry [.ref h0, .long (lN (b))] (n := 8) (Nat.le_of_ble_eq_true rfl)
  rw [lg_entry_eq]
  generalize (lg_sl [.ref h0, .long (lN (b))] ++ List.replicate (8 - (lg_sl [.ref h0, .long (lN (b))]).length) Slot.unset).toArray = ls at hl ⊢
  have hl : lv_has ls 8 [(0, .ref h0), (1, .long (lN (b)))] := hl
  refine lv_aload_n hx hb d_Mo_widened_0 rfl (lv_at hl 0 rfl) ?_
  refine lv_lload_n hx hb d_Mo_widened_1 rfl (lv_at hl 1 rfl) ?_
  refine lv_iconst (v := iZ (1)) hx hb d_Mo_widened_2 rfl ?_
  refine zv_top (y := bZ (true = true)) ((bZ_t rfl).symm) ?_
  refine kg_i (kr_S (As := [.long (lN (b)), .int (bZ (true = true))]) (rest := [.ref h0]) C0 (c_Mo_isWrong l D Z _ b true (by assumption)) q_y_Mo_isWrong kw_365_ kw_364_ kw_314_ hd_y_Mo_isWrong rfl rfl ⟨Nat.le_of_ble_eq_true rfl, Nat.le_of_ble_eq_true rfl⟩ (hP.sub (ws' := []) [] rfl) (hD.sub (ws' := []) [] (by decide) rfl) (hK.sub (tys' := []) [] rfl) hE hS (va_free (wc := []) hD hS hA [] rfl) rfl hl.1 rfl (Nat.le_of_ble_eq_true rfl) d_Mo_widened_3 ⟨Nat.le_of_ble_eq_true rfl, Nat.le_of_ble_eq_true rfl⟩) (fun r hr1 => ?_)
  obtain rfl : r = bZ (true = true ∧ ¬ b < 4294967296) := hr1
  refine bv_if_eq (tgt := 13) hx hb d_Mo_widened_6 (by decide) (fun c6 => absurd ⟨rfl, hno⟩ c6) (fun c6 => ?_)
  refine lv_iconst (v := iZ (1)) hx hb d_Mo_widened_9 rfl ?_
  refine lv_goto (tgt := 14) hx hb d_Mo_widened_10 (by decide) ?_
  refine va_put (D := D) (ci := 5) (v := .int (iZ (1))) (ty := .int) (C := R_Mo) (T := F_Mo) (N := 18) hx hb hts i_Mo t_Mo t_Mo_ok n_Mo hown hK hP hD hS 0 rfl rfl 0 (by decide) (hts _ kw_304_) (fun _ h9 => h9) rfl (by decide +kernel) rfl rfl (Nat.le_of_ble_eq_true rfl) d_Mo_widened_14 (fun H locs hP hD hS => ?_)
  have hP : va_P D classes [(h0, .inr (5, [.int (iZ (1)), .ref au, .ref al, .ref av, .ref ao, .ref ah, .ref ar, .ref ap, .int (iZ ((((t).length : Nat) : Int))), .int (bZ (ng = true)), .int (iZ (((me : Nat) : Int))), .long (lN (mf)), .int (iZ (((mb : Nat) : Int))), .int (iZ (((mm : Nat) : Int))), .long (lN (ms)), .int (iZ (mt)), .long (lN (mq)), .int (iZ (mz))]))] H := hP
  have hD : va_D A [(h0, .inr (5, [.int (iZ (1)), .ref au, .ref al, .ref av, .ref ao, .ref ah, .ref ar, .ref ap, .int (iZ ((((t).length : Nat) : Int))), .int (bZ (ng = true)), .int (iZ (((me : Nat) : Int))), .long (lN (mf)), .int (iZ (((mb : Nat) : Int))), .int (iZ (((mm : Nat) : Int))), .long (lN (ms)), .int (iZ (mt)), .long (lN (mq)), .int (iZ (mz))]))] := hD
  refine lv_aload_n hx hb d_Mo_widened_17 rfl (lv_at hl 0 rfl) ?_
  refine va_get (D := D) (ci := 5) (v := .int (iZ (1))) (C := R_Mo) (T := F_Mo) (N := 18) hx hb hts i_Mo hown hK hP 0 rfl rfl 0 (by decide) (hts _ kw_304_) (fun _ h9 => h9) rfl d_Mo_widened_18 ?_
  refine zv_if_le (tgt := 26) hx hb d_Mo_widened_21 (by decide) (by omega) (fun c21 => absurd c21 (by decide)) (fun c21 => ?_)
  refine lv_lconst (v := lN 0) hx hb d_Mo_widened_24 rfl ?_
  exact ew_l () hx hb hr hlocks d_Mo_widened_25 (show lN (0) = lN (0) from rfl) (hP.sub (ws' := [(h0, .inr (5, [.int (iZ (1)), .ref au, .ref al, .ref av, .ref ao, .ref ah, .ref ar, .ref ap, .int (iZ ((((t).length : Nat) : Int))), .int (bZ (ng = true)), .int (iZ (((me : Nat) : Int))), .long (lN (mf)), .int (iZ (((mb : Nat) : Int))), .int (iZ (((mm : Nat) : Int))), .long (lN (ms)), .int (iZ (mt)), .long (lN (mq)), .int (iZ (mz))]))]) [0] rfl) (hD.sub (ws' := [(h0, .inr (5, [.int (iZ (1)), .ref au, .ref al, .ref av, .ref ao, .ref ah, .ref ar, .ref ap, .int (iZ ((((t).length : Nat) : Int))), .int (bZ (ng = true)), .int (iZ (((me : Nat) : Int))), .long (lN (mf)), .int (iZ (((mb : Nat) : Int))), .int (iZ (((mm : Nat) : Int))), .long (lN (ms)), .int (iZ (mt)), .long (lN (mq)), .int (iZ (mz))]))]) [0] (by decide) rfl) (hK.sub (tys' := []) [] rfl) hS (Nat.le_of_ble_eq_true rfl) (Nat.le_of_ble_eq_true rfl)
