theorem d_Mo_next_0 : decode b_Mo_next 0 = .ok (.aload_n 0, 1) := by decide +kernel
theorem d_Mo_next_1 : decode b_Mo_next 1 = .ok (.lload_n 1, 1) := by decide +kernel
theorem d_Mo_next_2 : decode b_Mo_next 2 = .ok (.iload_n 3, 1) := by decide +kernel
theorem d_Mo_next_3 : decode b_Mo_next 3 = .ok (.invokestatic 122, 3) := by decide +kernel
theorem d_Mo_next_6 : decode b_Mo_next 6 = .ok (.ifCond .eq 7, 3) := by decide +kernel
theorem d_Mo_next_9 : decode b_Mo_next 9 = .ok (.iconst 1, 1) := by decide +kernel
theorem d_Mo_next_10 : decode b_Mo_next 10 = .ok (.goto 4, 3) := by decide +kernel
theorem d_Mo_next_13 : decode b_Mo_next 13 = .ok (.iconst 0, 1) := by decide +kernel
theorem d_Mo_next_14 : decode b_Mo_next 14 = .ok (.putfield 31, 3) := by decide +kernel
theorem d_Mo_next_17 : decode b_Mo_next 17 = .ok (.aload_n 0, 1) := by decide +kernel
theorem d_Mo_next_18 : decode b_Mo_next 18 = .ok (.getfield 31, 3) := by decide +kernel
theorem d_Mo_next_21 : decode b_Mo_next 21 = .ok (.ifCond .le 5, 3) := by decide +kernel
theorem d_Mo_next_24 : decode b_Mo_next 24 = .ok (.lconst 0, 1) := by decide +kernel
theorem d_Mo_next_25 : decode b_Mo_next 25 = .ok (.lreturn, 1) := by decide +kernel
theorem d_Mo_next_26 : decode b_Mo_next 26 = .ok (.aload_n 0, 1) := by decide +kernel
theorem d_Mo_next_27 : decode b_Mo_next 27 = .ok (.lload_n 1, 1) := by decide +kernel
theorem d_Mo_next_28 : decode b_Mo_next 28 = .ok (.iload_n 3, 1) := by decide +kernel
theorem d_Mo_next_29 : decode b_Mo_next 29 = .ok (.invokevirtual 126, 3) := by decide +kernel
theorem d_Mo_next_32 : decode b_Mo_next 32 = .ok (.lconst 1, 1) := by decide +kernel
theorem d_Mo_next_33 : decode b_Mo_next 33 = .ok (.iload_n 3, 1) := by decide +kernel
theorem d_Mo_next_34 : decode b_Mo_next 34 = .ok (.ifCond .eq 8, 3) := by decide +kernel
theorem d_Mo_next_37 : decode b_Mo_next 37 = .ok (.bipush 31, 2) := by decide +kernel
theorem d_Mo_next_39 : decode b_Mo_next 39 = .ok (.goto 5, 3) := by decide +kernel
theorem d_Mo_next_42 : decode b_Mo_next 42 = .ok (.bipush 63, 2) := by decide +kernel
theorem d_Mo_next_44 : decode b_Mo_next 44 = .ok (.lshl, 1) := by decide +kernel
theorem d_Mo_next_45 : decode b_Mo_next 45 = .ok (.lstore 5, 2) := by decide +kernel
theorem d_Mo_next_47 : decode b_Mo_next 47 = .ok (.aload_n 0, 1) := by decide +kernel
theorem d_Mo_next_48 : decode b_Mo_next 48 = .ok (.invokevirtual 130, 3) := by decide +kernel
theorem d_Mo_next_51 : decode b_Mo_next 51 = .ok (.ifCond .ne 23, 3) := by decide +kernel
theorem d_Mo_next_54 : decode b_Mo_next 54 = .ok (.aload_n 0, 1) := by decide +kernel
theorem d_Mo_next_55 : decode b_Mo_next 55 = .ok (.getfield 48, 3) := by decide +kernel
theorem d_Mo_next_58 : decode b_Mo_next 58 = .ok (.lconst 0, 1) := by decide +kernel
theorem d_Mo_next_59 : decode b_Mo_next 59 = .ok (.lcmp, 1) := by decide +kernel
theorem d_Mo_next_60 : decode b_Mo_next 60 = .ok (.ifCond .ne 12, 3) := by decide +kernel
theorem d_Mo_next_63 : decode b_Mo_next 63 = .ok (.aload_n 0, 1) := by decide +kernel
theorem d_Mo_next_64 : decode b_Mo_next 64 = .ok (.getfield 41, 3) := by decide +kernel
theorem d_Mo_next_67 : decode b_Mo_next 67 = .ok (.iload 4, 2) := by decide +kernel
theorem d_Mo_next_69 : decode b_Mo_next 69 = .ok (.if_icmp .eq 5, 3) := by decide +kernel
theorem d_Mo_next_72 : decode b_Mo_next 72 = .ok (.lload_n 1, 1) := by decide +kernel
theorem d_Mo_next_73 : decode b_Mo_next 73 = .ok (.lreturn, 1) := by decide +kernel
theorem d_Mo_next_74 : decode b_Mo_next 74 = .ok (.aload_n 0, 1) := by decide +kernel
theorem d_Mo_next_75 : decode b_Mo_next 75 = .ok (.getfield 45, 3) := by decide +kernel
theorem d_Mo_next_78 : decode b_Mo_next 78 = .ok (.ifCond .ne 26, 3) := by decide +kernel
theorem d_Mo_next_81 : decode b_Mo_next 81 = .ok (.aload_n 0, 1) := by decide +kernel
theorem d_Mo_next_82 : decode b_Mo_next 82 = .ok (.getfield 48, 3) := by decide +kernel
theorem d_Mo_next_85 : decode b_Mo_next 85 = .ok (.lconst 0, 1) := by decide +kernel
theorem d_Mo_next_86 : decode b_Mo_next 86 = .ok (.lcmp, 1) := by decide +kernel
theorem d_Mo_next_87 : decode b_Mo_next 87 = .ok (.ifCond .ne 17, 3) := by decide +kernel
theorem d_Mo_next_90 : decode b_Mo_next 90 = .ok (.iload 4, 2) := by decide +kernel
theorem d_Mo_next_92 : decode b_Mo_next 92 = .ok (.ifCond .eq 7, 3) := by decide +kernel
theorem d_Mo_next_95 : decode b_Mo_next 95 = .ok (.lconst 1, 1) := by decide +kernel
theorem d_Mo_next_96 : decode b_Mo_next 96 = .ok (.goto 7, 3) := by decide +kernel
theorem d_Mo_next_99 : decode b_Mo_next 99 = .ok (.lload 5, 2) := by decide +kernel
theorem d_Mo_next_101 : decode b_Mo_next 101 = .ok (.lconst 1, 1) := by decide +kernel
theorem d_Mo_next_102 : decode b_Mo_next 102 = .ok (.lor, 1) := by decide +kernel
theorem d_Mo_next_103 : decode b_Mo_next 103 = .ok (.lreturn, 1) := by decide +kernel
theorem d_Mo_next_104 : decode b_Mo_next 104 = .ok (.aload_n 0, 1) := by decide +kernel
theorem d_Mo_next_105 : decode b_Mo_next 105 = .ok (.getfield 41, 3) := by decide +kernel
theorem d_Mo_next_108 : decode b_Mo_next 108 = .ok (.iload 4, 2) := by decide +kernel
theorem d_Mo_next_110 : decode b_Mo_next 110 = .ok (.if_icmp .ne 9, 3) := by decide +kernel
theorem d_Mo_next_113 : decode b_Mo_next 113 = .ok (.lload_n 1, 1) := by decide +kernel
theorem d_Mo_next_114 : decode b_Mo_next 114 = .ok (.lconst 1, 1) := by decide +kernel
theorem d_Mo_next_115 : decode b_Mo_next 115 = .ok (.lsub, 1) := by decide +kernel
theorem d_Mo_next_116 : decode b_Mo_next 116 = .ok (.goto 6, 3) := by decide +kernel
theorem d_Mo_next_119 : decode b_Mo_next 119 = .ok (.lload_n 1, 1) := by decide +kernel
theorem d_Mo_next_120 : decode b_Mo_next 120 = .ok (.lconst 1, 1) := by decide +kernel
theorem d_Mo_next_121 : decode b_Mo_next 121 = .ok (.ladd, 1) := by decide +kernel
theorem d_Mo_next_122 : decode b_Mo_next 122 = .ok (.lreturn, 1) := by decide +kernel
abbrev Qc_Mo_next (D : va_G) (h0 : Nat) (th : Int) (au : Nat) (al : Nat) (av : Nat) (ao : Nat) (ah : Nat) (ar : Nat) (ap : Nat) (t : List Nat) (ng : Bool) (me : Nat) (mf : Nat) (mb : Nat) (mm : Nat) (ms : Nat) (mt : Int) (mq : Nat) (mz : Int) (b : Nat) (nw : Bool) (up : Bool) (A : Nat → Prop) : Array Value → State → Outcome → State → Prop := va_Ql (fun (r : Int64) (u : Unit) => r = lN (nxtF b nw up)) (fun (u : Unit) t9 => cpost D A [(h0, .inr (5, [.int (iZ (0)), .ref au, .ref al, .ref av, .ref ao, .ref ah, .ref ar, .ref ap, .int (iZ ((((t).length : Nat) : Int))), .int (bZ (fN b nw = true)), .int (iZ (((fE b nw : Nat) : Int))), .long (lN (fF b nw)), .int (iZ (((fP nw : Nat) : Int))), .int (iZ (((fMo nw : Nat) : Int))), .long (lN (fM b nw)), .int (iZ (fW b nw)), .long (lN (mq)), .int (iZ (mz))]))] [] t9) A
set_option maxHeartbeats 4000000 in
set_option maxRecDepth 100000 in
theorem lp_Mo_next_44 {p : Program} {l : Launch} {e : Env} {s : State} {m : MethodId} {args : Array Value} {below : List Frame} {meth : Method} {c : Code} {A : Nat → Prop} {D : va_G} {Z : Nat → Nat} (h0 : Nat) (th : Int) (au : Nat) (al : Nat) (av : Nat) (ao : Nat) (ah : Nat) (ar : Nat) (ap : Nat) (t : List Nat) (ng : Bool) (me : Nat) (mf : Nat) (mb : Nat) (mm : Nat) (ms : Nat) (mt : Int) (mq : Nat) (mz : Int) (b : Nat) (nw : Bool) (up : Bool) (hb9 : b < 18446744073709551616) (hok : nw = true → b < 4294967296) (C0 : cxA p s m args meth c b_Mo_next 7 R_Mo (some .long)) (hA : ∀ q : Nat, s.heap.size ≤ q → A q) (hE : Ev Z A s s.heap) : ∀ (N : Nat)  (H : Heap) (locs : List Loc) (ls : Array Slot), 0 < N → va_K D classes [] s → va_P D classes [(h0, .inr (5, [.int (iZ (0)), .ref au, .ref al, .ref av, .ref ao, .ref ah, .ref ar, .ref ap, .int (iZ ((((t).length : Nat) : Int))), .int (bZ (fN b nw = true)), .int (iZ (((fE b nw : Nat) : Int))), .long (lN (fF b nw)), .int (iZ (((fP nw : Nat) : Int))), .int (iZ (((fMo nw : Nat) : Int))), .long (lN (fM b nw)), .int (iZ (fW b nw)), .long (lN (mq)), .int (iZ (mz))]))] H → va_D A [(h0, .inr (5, [.int (iZ (0)), .ref au, .ref al, .ref av, .ref ao, .ref ah, .ref ar, .ref ap, .int (iZ ((((t).length : Nat) : Int))), .int (bZ (fN b nw = true)), .int (iZ (((fE b nw : Nat) : Int))), .long (lN (fF b nw)), .int (iZ (((fP nw : Nat) : Int))), .int (iZ (((fMo nw : Nat) : Int))), .long (lN (fM b nw)), .int (iZ (fW b nw)), .long (lN (mq)), .int (iZ (mz))]))] → va_S A s.heap H locs → lv_has ls 7 [(0, .ref h0), (1, .long (lN (b))), (3, .int (bZ (nw = true))), (4, .int (bZ (up = true)))] → W p l e ({ frames := 1, cells := 0, slots := 0, locals := 23 } : Room) s m args below meth c H locs 0 0 (MQ below (Qc_Mo_next D h0 th au al av ao ah ar ap t ng me mf mb mm ms mt mq mz b nw up A) args s 0 0 A) (F0 m 44 ls [.int (iZ (((fSh nw : Nat) : Int))), .long (lN (1))]) := by
  obtain ⟨hx, hb, hml, hown, hts, hr, hlocks⟩ := id C0
  intro N
  induction N with
  | zero => intro  H locs ls hN; exact absurd hN (Nat.not_lt_zero _)
  | succ N ih =>
    intro  H locs ls hN  hK hP hD hS hl
    have hfe := fE_lt b nw
    have hmo := fMo_lt nw
    have hff := fF_lt b nw
    have hpp := fP_pow nw
    have hfi := fin_iff b nw
    obtain ⟨hs1, hs2⟩ := sz_facts b nw
    have hfn := fN_iff b nw
    have hsl := fS_lt nw
    have hsp := fS_pow nw
    refine nv_lshl (k := (fSh nw)) hx hb d_Mo_next_44 (rfl) (by unfold fSh; split <;> decide) ?_
    refine nv_top (y := lN (fS nw)) (congrArg lN (by rw [Nat.one_mul, hsp])) ?_
    refine lv_lstore (lv' := [(5, .long (lN (fS nw))), (0, .ref h0), (1, .long (lN (b))), (3, .int (bZ (nw = true))), (4, .int (bZ (up = true)))]) hx hb d_Mo_next_45 hl (by decide) rfl (fun ls hl => ?_)
    refine lv_aload_n hx hb d_Mo_next_47 rfl (lv_at hl 1 rfl) ?_
    refine kg_i (kr_V (C0 := R_Mo) (ci := 5) (i0 := 0) (As := []) (rest := []) C0 (c_Mo_isFinite l D Z _ h0 0 au al av ao ah ar ap t (fN b nw) (fE b nw) (fF b nw) (fP nw) (fMo nw) (fM b nw) (fW b nw) mq mz (by omega) (by omega)) q_y_Mo_isFinite kw_369_ kw_370_ kw_371_ kw_314_ hd_y_Mo_isFinite rfl rfl ⟨Nat.le_of_ble_eq_true rfl, Nat.le_of_ble_eq_true rfl⟩ (hP.sub (ws' := [(h0, .inr (5, [.int (iZ (0)), .ref au, .ref al, .ref av, .ref ao, .ref ah, .ref ar, .ref ap, .int (iZ ((((t).length : Nat) : Int))), .int (bZ ((fN b nw) = true)), .int (iZ ((((fE b nw) : Nat) : Int))), .long (lN ((fF b nw))), .int (iZ ((((fP nw) : Nat) : Int))), .int (iZ ((((fMo nw) : Nat) : Int))), .long (lN ((fM b nw))), .int (iZ ((fW b nw))), .long (lN (mq)), .int (iZ (mz))]))]) [0] rfl) (hD.sub (ws' := [(h0, .inr (5, [.int (iZ (0)), .ref au, .ref al, .ref av, .ref ao, .ref ah, .ref ar, .ref ap, .int (iZ ((((t).length : Nat) : Int))), .int (bZ ((fN b nw) = true)), .int (iZ ((((fE b nw) : Nat) : Int))), .long (lN ((fF b nw))), .int (iZ ((((fP nw) : Nat) : Int))), .int (iZ ((((fMo nw) : Nat) : Int))), .long (lN ((fM b nw))), .int (iZ ((fW b nw))), .long (lN (mq)), .int (iZ (mz))]))]) [0] (by decide) rfl) (hK.sub (tys' := []) [] rfl) hE hS (va_free (wc := [(h0, .inr (5, [.int (iZ (0)), .ref au, .ref al, .ref av, .ref ao, .ref ah, .ref ar, .ref ap, .int (iZ ((((t).length : Nat) : Int))), .int (bZ ((fN b nw) = true)), .int (iZ ((((fE b nw) : Nat) : Int))), .long (lN ((fF b nw))), .int (iZ ((((fP nw) : Nat) : Int))), .int (iZ ((((fMo nw) : Nat) : Int))), .long (lN ((fM b nw))), .int (iZ ((fW b nw))), .long (lN (mq)), .int (iZ (mz))]))]) hD hS hA [0] rfl) rfl rfl rfl hl.1 rfl (Nat.le_of_ble_eq_true rfl) d_Mo_next_48 ⟨Nat.le_of_ble_eq_true rfl, Nat.le_of_ble_eq_true rfl⟩) (fun r hr1 => ?_)
    obtain rfl : r = bZ ((fE b nw) < (fMo nw)) := hr1
    refine bv_if_ne (tgt := 74) hx hb d_Mo_next_51 (by decide) (fun c51 => ?_) (fun c51 => ?_)
    · have hfin : fSz b nw < fI nw := hfi.mp c51
      refine lv_aload_n hx hb d_Mo_next_74 rfl (lv_at hl 1 rfl) ?_
      refine va_get (D := D) (ci := 5) (v := .int (iZ (((fE b nw : Nat) : Int)))) (C := R_Mo) (T := F_Mo) (N := 18) hx hb hts i_Mo hown hK hP 0 rfl rfl 10 (by decide) (hts _ kw_307_) (fun _ h9 => h9) rfl d_Mo_next_75 ?_
      refine zv_if_ne (tgt := 104) hx hb d_Mo_next_78 (by decide) (by omega) (fun c78 => ?_) (fun c78 => ?_)
      · refine lv_aload_n hx hb d_Mo_next_104 rfl (lv_at hl 1 rfl) ?_
        refine va_get (D := D) (ci := 5) (v := .int (bZ (fN b nw = true))) (C := R_Mo) (T := F_Mo) (N := 18) hx hb hts i_Mo hown hK hP 0 rfl rfl 9 (by decide) (hts _ kw_308_) (fun _ h9 => h9) rfl d_Mo_next_105 ?_
        refine lv_iload hx hb d_Mo_next_108 (lv_at hl 4 rfl) ?_
        refine bv_icmp_ne (tgt := 119) hx hb d_Mo_next_110 (by decide) (fun c110 => ?_) (fun c110 => ?_)
        · refine lv_lload_n hx hb d_Mo_next_119 rfl (lv_at hl 2 rfl) ?_
          refine lv_lconst (v := lN 1) hx hb d_Mo_next_120 rfl ?_
          refine nv_ladd hx hb d_Mo_next_121 ?_
          exact ew_l () hx hb hr hlocks d_Mo_next_122 (show lN (b + 1) = lN (nxtF b nw up) from congrArg lN (by first | exact nx_p (Or.inl hfin) (by omega) hfn c110 | exact nx_p (Or.inr ⟨hs3.1.mp (by omega), c69⟩) (by omega) hfn c110)) (hP.sub (ws' := [(h0, .inr (5, [.int (iZ (0)), .ref au, .ref al, .ref av, .ref ao, .ref ah, .ref ar, .ref ap, .int (iZ ((((t).length : Nat) : Int))), .int (bZ (fN b nw = true)), .int (iZ (((fE b nw : Nat) : Int))), .long (lN (fF b nw)), .int (iZ (((fP nw : Nat) : Int))), .int (iZ (((fMo nw : Nat) : Int))), .long (lN (fM b nw)), .int (iZ (fW b nw)), .long (lN (mq)), .int (iZ (mz))]))]) [0] rfl) (hD.sub (ws' := [(h0, .inr (5, [.int (iZ (0)), .ref au, .ref al, .ref av, .ref ao, .ref ah, .ref ar, .ref ap, .int (iZ ((((t).length : Nat) : Int))), .int (bZ (fN b nw = true)), .int (iZ (((fE b nw : Nat) : Int))), .long (lN (fF b nw)), .int (iZ (((fP nw : Nat) : Int))), .int (iZ (((fMo nw : Nat) : Int))), .long (lN (fM b nw)), .int (iZ (fW b nw)), .long (lN (mq)), .int (iZ (mz))]))]) [0] (by decide) rfl) (hK.sub (tys' := []) [] rfl) hS (Nat.le_of_ble_eq_true rfl) (Nat.le_of_ble_eq_true rfl)
        · refine lv_lload_n hx hb d_Mo_next_113 rfl (lv_at hl 2 rfl) ?_
          refine lv_lconst (v := lN 1) hx hb d_Mo_next_114 rfl ?_
          refine nv_lsub hx hb d_Mo_next_115 (Nat.le_trans (show 1 ≤ fSz b nw by omega) (Nat.mod_le b (fS nw))) ?_
          refine lv_goto (tgt := 122) hx hb d_Mo_next_116 (by decide) ?_
          exact ew_l () hx hb hr hlocks d_Mo_next_122 (show lN (b - 1) = lN (nxtF b nw up) from congrArg lN (by first | exact nx_m (Or.inl hfin) (by omega) hfn c110 | exact nx_m (Or.inr ⟨hs3.1.mp (by omega), c69⟩) (by omega) hfn c110)) (hP.sub (ws' := [(h0, .inr (5, [.int (iZ (0)), .ref au, .ref al, .ref av, .ref ao, .ref ah, .ref ar, .ref ap, .int (iZ ((((t).length : Nat) : Int))), .int (bZ (fN b nw = true)), .int (iZ (((fE b nw : Nat) : Int))), .long (lN (fF b nw)), .int (iZ (((fP nw : Nat) : Int))), .int (iZ (((fMo nw : Nat) : Int))), .long (lN (fM b nw)), .int (iZ (fW b nw)), .long (lN (mq)), .int (iZ (mz))]))]) [0] rfl) (hD.sub (ws' := [(h0, .inr (5, [.int (iZ (0)), .ref au, .ref al, .ref av, .ref ao, .ref ah, .ref ar, .ref ap, .int (iZ ((((t).length : Nat) : Int))), .int (bZ (fN b nw = true)), .int (iZ (((fE b nw : Nat) : Int))), .long (lN (fF b nw)), .int (iZ (((fP nw : Nat) : Int))), .int (iZ (((fMo nw : Nat) : Int))), .long (lN (fM b nw)), .int (iZ (fW b nw)), .long (lN (mq)), .int (iZ (mz))]))]) [0] (by decide) rfl) (hK.sub (tys' := []) [] rfl) hS (Nat.le_of_ble_eq_true rfl) (Nat.le_of_ble_eq_true rfl)
      · refine lv_aload_n hx hb d_Mo_next_81 rfl (lv_at hl 1 rfl) ?_
        refine va_get (D := D) (ci := 5) (v := .long (lN (fF b nw))) (C := R_Mo) (T := F_Mo) (N := 18) hx hb hts i_Mo hown hK hP 0 rfl rfl 11 (by decide) (hts _ kw_311_) (fun _ h9 => h9) rfl d_Mo_next_82 ?_
        refine lv_lconst (v := lN 0) hx hb d_Mo_next_85 rfl ?_
        refine nv_lcmp_ne (tgt := 104) hx hb d_Mo_next_86 d_Mo_next_87 (by decide) (by omega) (by decide) (fun c86 => ?_) (fun c86 => ?_)
        · refine lv_aload_n hx hb d_Mo_next_104 rfl (lv_at hl 1 rfl) ?_
          refine va_get (D := D) (ci := 5) (v := .int (bZ (fN b nw = true))) (C := R_Mo) (T := F_Mo) (N := 18) hx hb hts i_Mo hown hK hP 0 rfl rfl 9 (by decide) (hts _ kw_308_) (fun _ h9 => h9) rfl d_Mo_next_105 ?_
          refine lv_iload hx hb d_Mo_next_108 (lv_at hl 4 rfl) ?_
          refine bv_icmp_ne (tgt := 119) hx hb d_Mo_next_110 (by decide) (fun c110 => ?_) (fun c110 => ?_)
          · refine lv_lload_n hx hb d_Mo_next_119 rfl (lv_at hl 2 rfl) ?_
            refine lv_lconst (v := lN 1) hx hb d_Mo_next_120 rfl ?_
            refine nv_ladd hx hb d_Mo_next_121 ?_
            exact ew_l () hx hb hr hlocks d_Mo_next_122 (show lN (b + 1) = lN (nxtF b nw up) from congrArg lN (by first | exact nx_p (Or.inl hfin) (by omega) hfn c110 | exact nx_p (Or.inr ⟨hs3.1.mp (by omega), c69⟩) (by omega) hfn c110)) (hP.sub (ws' := [(h0, .inr (5, [.int (iZ (0)), .ref au, .ref al, .ref av, .ref ao, .ref ah, .ref ar, .ref ap, .int (iZ ((((t).length : Nat) : Int))), .int (bZ (fN b nw = true)), .int (iZ (((fE b nw : Nat) : Int))), .long (lN (fF b nw)), .int (iZ (((fP nw : Nat) : Int))), .int (iZ (((fMo nw : Nat) : Int))), .long (lN (fM b nw)), .int (iZ (fW b nw)), .long (lN (mq)), .int (iZ (mz))]))]) [0] rfl) (hD.sub (ws' := [(h0, .inr (5, [.int (iZ (0)), .ref au, .ref al, .ref av, .ref ao, .ref ah, .ref ar, .ref ap, .int (iZ ((((t).length : Nat) : Int))), .int (bZ (fN b nw = true)), .int (iZ (((fE b nw : Nat) : Int))), .long (lN (fF b nw)), .int (iZ (((fP nw : Nat) : Int))), .int (iZ (((fMo nw : Nat) : Int))), .long (lN (fM b nw)), .int (iZ (fW b nw)), .long (lN (mq)), .int (iZ (mz))]))]) [0] (by decide) rfl) (hK.sub (tys' := []) [] rfl) hS (Nat.le_of_ble_eq_true rfl) (Nat.le_of_ble_eq_true rfl)
          · refine lv_lload_n hx hb d_Mo_next_113 rfl (lv_at hl 2 rfl) ?_
            refine lv_lconst (v := lN 1) hx hb d_Mo_next_114 rfl ?_
            refine nv_lsub hx hb d_Mo_next_115 (Nat.le_trans (show 1 ≤ fSz b nw by omega) (Nat.mod_le b (fS nw))) ?_
            refine lv_goto (tgt := 122) hx hb d_Mo_next_116 (by decide) ?_
            exact ew_l () hx hb hr hlocks d_Mo_next_122 (show lN (b - 1) = lN (nxtF b nw up) from congrArg lN (by first | exact nx_m (Or.inl hfin) (by omega) hfn c110 | exact nx_m (Or.inr ⟨hs3.1.mp (by omega), c69⟩) (by omega) hfn c110)) (hP.sub (ws' := [(h0, .inr (5, [.int (iZ (0)), .ref au, .ref al, .ref av, .ref ao, .ref ah, .ref ar, .ref ap, .int (iZ ((((t).length : Nat) : Int))), .int (bZ (fN b nw = true)), .int (iZ (((fE b nw : Nat) : Int))), .long (lN (fF b nw)), .int (iZ (((fP nw : Nat) : Int))), .int (iZ (((fMo nw : Nat) : Int))), .long (lN (fM b nw)), .int (iZ (fW b nw)), .long (lN (mq)), .int (iZ (mz))]))]) [0] rfl) (hD.sub (ws' := [(h0, .inr (5, [.int (iZ (0)), .ref au, .ref al, .ref av, .ref ao, .ref ah, .ref ar, .ref ap, .int (iZ ((((t).length : Nat) : Int))), .int (bZ (fN b nw = true)), .int (iZ (((fE b nw : Nat) : Int))), .long (lN (fF b nw)), .int (iZ (((fP nw : Nat) : Int))), .int (iZ (((fMo nw : Nat) : Int))), .long (lN (fM b nw)), .int (iZ (fW b nw)), .long (lN (mq)), .int (iZ (mz))]))]) [0] (by decide) rfl) (hK.sub (tys' := []) [] rfl) hS (Nat.le_of_ble_eq_true rfl) (Nat.le_of_ble_eq_true rfl)
        · refine lv_iload hx hb d_Mo_next_90 (lv_at hl 4 rfl) ?_
          refine bv_if_eq (tgt := 99) hx hb d_Mo_next_92 (by decide) (fun c92 => ?_) (fun c92 => ?_)
          · refine lv_lload hx hb d_Mo_next_99 (lv_at hl 0 rfl) ?_
            refine lv_lconst (v := lN 1) hx hb d_Mo_next_101 rfl ?_
            refine nv_lor hx hb d_Mo_next_102 (by omega) (by decide) ?_
            refine nv_top (y := lN (fS nw + 1)) (congrArg lN (by cases nw <;> decide)) ?_
            exact ew_l () hx hb hr hlocks d_Mo_next_103 (show lN (fS nw + 1) = lN (nxtF b nw up) from congrArg lN (nx_0 (by omega) (Or.inr ⟨c92, rfl⟩))) (hP.sub (ws' := [(h0, .inr (5, [.int (iZ (0)), .ref au, .ref al, .ref av, .ref ao, .ref ah, .ref ar, .ref ap, .int (iZ ((((t).length : Nat) : Int))), .int (bZ (fN b nw = true)), .int (iZ (((fE b nw : Nat) : Int))), .long (lN (fF b nw)), .int (iZ (((fP nw : Nat) : Int))), .int (iZ (((fMo nw : Nat) : Int))), .long (lN (fM b nw)), .int (iZ (fW b nw)), .long (lN (mq)), .int (iZ (mz))]))]) [0] rfl) (hD.sub (ws' := [(h0, .inr (5, [.int (iZ (0)), .ref au, .ref al, .ref av, .ref ao, .ref ah, .ref ar, .ref ap, .int (iZ ((((t).length : Nat) : Int))), .int (bZ (fN b nw = true)), .int (iZ (((fE b nw : Nat) : Int))), .long (lN (fF b nw)), .int (iZ (((fP nw : Nat) : Int))), .int (iZ (((fMo nw : Nat) : Int))), .long (lN (fM b nw)), .int (iZ (fW b nw)), .long (lN (mq)), .int (iZ (mz))]))]) [0] (by decide) rfl) (hK.sub (tys' := []) [] rfl) hS (Nat.le_of_ble_eq_true rfl) (Nat.le_of_ble_eq_true rfl)
          · refine lv_lconst (v := lN 1) hx hb d_Mo_next_95 rfl ?_
            refine lv_goto (tgt := 103) hx hb d_Mo_next_96 (by decide) ?_
            exact ew_l () hx hb hr hlocks d_Mo_next_103 (show lN (1) = lN (nxtF b nw up) from congrArg lN (nx_0 (by omega) (Or.inl ⟨c92, rfl⟩))) (hP.sub (ws' := [(h0, .inr (5, [.int (iZ (0)), .ref au, .ref al, .ref av, .ref ao, .ref ah, .ref ar, .ref ap, .int (iZ ((((t).length : Nat) : Int))), .int (bZ (fN b nw = true)), .int (iZ (((fE b nw : Nat) : Int))), .long (lN (fF b nw)), .int (iZ (((fP nw : Nat) : Int))), .int (iZ (((fMo nw : Nat) : Int))), .long (lN (fM b nw)), .int (iZ (fW b nw)), .long (lN (mq)), .int (iZ (mz))]))]) [0] rfl) (hD.sub (ws' := [(h0, .inr (5, [.int (iZ (0)), .ref au, .ref al, .ref av, .ref ao, .ref ah, .ref ar, .ref ap, .int (iZ ((((t).length : Nat) : Int))), .int (bZ (fN b nw = true)), .int (iZ (((fE b nw : Nat) : Int))), .long (lN (fF b nw)), .int (iZ (((fP nw : Nat) : Int))), .int (iZ (((fMo nw : Nat) : Int))), .long (lN (fM b nw)), .int (iZ (fW b nw)), .long (lN (mq)), .int (iZ (mz))]))]) [0] (by decide) rfl) (hK.sub (tys' := []) [] rfl) hS (Nat.le_of_ble_eq_true rfl) (Nat.le_of_ble_eq_true rfl)
    · have hs3 := hs2 c51
      refine lv_aload_n hx hb d_Mo_next_54 rfl (lv_at hl 1 rfl) ?_
      refine va_get (D := D) (ci := 5) (v := .long (lN (fF b nw))) (C := R_Mo) (T := F_Mo) (N := 18) hx hb hts i_Mo hown hK hP 0 rfl rfl 11 (by decide) (hts _ kw_311_) (fun _ h9 => h9) rfl d_Mo_next_55 ?_
      refine lv_lconst (v := lN 0) hx hb d_Mo_next_58 rfl ?_
      refine nv_lcmp_ne (tgt := 72) hx hb d_Mo_next_59 d_Mo_next_60 (by decide) (by omega) (by decide) (fun c59 => ?_) (fun c59 => ?_)
      · refine lv_lload_n hx hb d_Mo_next_72 rfl (lv_at hl 2 rfl) ?_
        exact ew_l () hx hb hr hlocks d_Mo_next_73 (show lN (b) = lN (nxtF b nw up) from congrArg lN (nx_b hs3 hfn (by first | exact Or.inl c59 | exact Or.inr c69))) (hP.sub (ws' := [(h0, .inr (5, [.int (iZ (0)), .ref au, .ref al, .ref av, .ref ao, .ref ah, .ref ar, .ref ap, .int (iZ ((((t).length : Nat) : Int))), .int (bZ (fN b nw = true)), .int (iZ (((fE b nw : Nat) : Int))), .long (lN (fF b nw)), .int (iZ (((fP nw : Nat) : Int))), .int (iZ (((fMo nw : Nat) : Int))), .long (lN (fM b nw)), .int (iZ (fW b nw)), .long (lN (mq)), .int (iZ (mz))]))]) [0] rfl) (hD.sub (ws' := [(h0, .inr (5, [.int (iZ (0)), .ref au, .ref al, .ref av, .ref ao, .ref ah, .ref ar, .ref ap, .int (iZ ((((t).length : Nat) : Int))), .int (bZ (fN b nw = true)), .int (iZ (((fE b nw : Nat) : Int))), .long (lN (fF b nw)), .int (iZ (((fP nw : Nat) : Int))), .int (iZ (((fMo nw : Nat) : Int))), .long (lN (fM b nw)), .int (iZ (fW b nw)), .long (lN (mq)), .int (iZ (mz))]))]) [0] (by decide) rfl) (hK.sub (tys' := []) [] rfl) hS (Nat.le_of_ble_eq_true rfl) (Nat.le_of_ble_eq_true rfl)
      · refine lv_aload_n hx hb d_Mo_next_63 rfl (lv_at hl 1 rfl) ?_
        refine va_get (D := D) (ci := 5) (v := .int (bZ (fN b nw = true))) (C := R_Mo) (T := F_Mo) (N := 18) hx hb hts i_Mo hown hK hP 0 rfl rfl 9 (by decide) (hts _ kw_308_) (fun _ h9 => h9) rfl d_Mo_next_64 ?_
        refine lv_iload hx hb d_Mo_next_67 (lv_at hl 4 rfl) ?_
        refine bv_icmp_eq (tgt := 74) hx hb d_Mo_next_69 (by decide) (fun c69 => ?_) (fun c69 => ?_)
        · refine lv_aload_n hx hb d_Mo_next_74 rfl (lv_at hl 1 rfl) ?_
          refine va_get (D := D) (ci := 5) (v := .int (iZ (((fE b nw : Nat) : Int)))) (C := R_Mo) (T := F_Mo) (N := 18) hx hb hts i_Mo hown hK hP 0 rfl rfl 10 (by decide) (hts _ kw_307_) (fun _ h9 => h9) rfl d_Mo_next_75 ?_
          refine zv_if_ne (tgt := 104) hx hb d_Mo_next_78 (by decide) (by omega) (fun c78 => ?_) (fun c78 => ?_)
          · refine lv_aload_n hx hb d_Mo_next_104 rfl (lv_at hl 1 rfl) ?_
            refine va_get (D := D) (ci := 5) (v := .int (bZ (fN b nw = true))) (C := R_Mo) (T := F_Mo) (N := 18) hx hb hts i_Mo hown hK hP 0 rfl rfl 9 (by decide) (hts _ kw_308_) (fun _ h9 => h9) rfl d_Mo_next_105 ?_
            refine lv_iload hx hb d_Mo_next_108 (lv_at hl 4 rfl) ?_
            refine bv_icmp_ne (tgt := 119) hx hb d_Mo_next_110 (by decide) (fun c110 => ?_) (fun c110 => ?_)
            · refine lv_lload_n hx hb d_Mo_next_119 rfl (lv_at hl 2 rfl) ?_
              refine lv_lconst (v := lN 1) hx hb d_Mo_next_120 rfl ?_
              refine nv_ladd hx hb d_Mo_next_121 ?_
              exact ew_l () hx hb hr hlocks d_Mo_next_122 (show lN (b + 1) = lN (nxtF b nw up) from congrArg lN (by first | exact nx_p (Or.inl hfin) (by omega) hfn c110 | exact nx_p (Or.inr ⟨hs3.1.mp (by omega), c69⟩) (by omega) hfn c110)) (hP.sub (ws' := [(h0, .inr (5, [.int (iZ (0)), .ref au, .ref al, .ref av, .ref ao, .ref ah, .ref ar, .ref ap, .int (iZ ((((t).length : Nat) : Int))), .int (bZ (fN b nw = true)), .int (iZ (((fE b nw : Nat) : Int))), .long (lN (fF b nw)), .int (iZ (((fP nw : Nat) : Int))), .int (iZ (((fMo nw : Nat) : Int))), .long (lN (fM b nw)), .int (iZ (fW b nw)), .long (lN (mq)), .int (iZ (mz))]))]) [0] rfl) (hD.sub (ws' := [(h0, .inr (5, [.int (iZ (0)), .ref au, .ref al, .ref av, .ref ao, .ref ah, .ref ar, .ref ap, .int (iZ ((((t).length : Nat) : Int))), .int (bZ (fN b nw = true)), .int (iZ (((fE b nw : Nat) : Int))), .long (lN (fF b nw)), .int (iZ (((fP nw : Nat) : Int))), .int (iZ (((fMo nw : Nat) : Int))), .long (lN (fM b nw)), .int (iZ (fW b nw)), .long (lN (mq)), .int (iZ (mz))]))]) [0] (by decide) rfl) (hK.sub (tys' := []) [] rfl) hS (Nat.le_of_ble_eq_true rfl) (Nat.le_of_ble_eq_true rfl)
            · refine lv_lload_n hx hb d_Mo_next_113 rfl (lv_at hl 2 rfl) ?_
              refine lv_lconst (v := lN 1) hx hb d_Mo_next_114 rfl ?_
              refine nv_lsub hx hb d_Mo_next_115 (Nat.le_trans (show 1 ≤ fSz b nw by omega) (Nat.mod_le b (fS nw))) ?_
              refine lv_goto (tgt := 122) hx hb d_Mo_next_116 (by decide) ?_
              exact ew_l () hx hb hr hlocks d_Mo_next_122 (show lN (b - 1) = lN (nxtF b nw up) from congrArg lN (by first | exact nx_m (Or.inl hfin) (by omega) hfn c110 | exact nx_m (Or.inr ⟨hs3.1.mp (by omega), c69⟩) (by omega) hfn c110)) (hP.sub (ws' := [(h0, .inr (5, [.int (iZ (0)), .ref au, .ref al, .ref av, .ref ao, .ref ah, .ref ar, .ref ap, .int (iZ ((((t).length : Nat) : Int))), .int (bZ (fN b nw = true)), .int (iZ (((fE b nw : Nat) : Int))), .long (lN (fF b nw)), .int (iZ (((fP nw : Nat) : Int))), .int (iZ (((fMo nw : Nat) : Int))), .long (lN (fM b nw)), .int (iZ (fW b nw)), .long (lN (mq)), .int (iZ (mz))]))]) [0] rfl) (hD.sub (ws' := [(h0, .inr (5, [.int (iZ (0)), .ref au, .ref al, .ref av, .ref ao, .ref ah, .ref ar, .ref ap, .int (iZ ((((t).length : Nat) : Int))), .int (bZ (fN b nw = true)), .int (iZ (((fE b nw : Nat) : Int))), .long (lN (fF b nw)), .int (iZ (((fP nw : Nat) : Int))), .int (iZ (((fMo nw : Nat) : Int))), .long (lN (fM b nw)), .int (iZ (fW b nw)), .long (lN (mq)), .int (iZ (mz))]))]) [0] (by decide) rfl) (hK.sub (tys' := []) [] rfl) hS (Nat.le_of_ble_eq_true rfl) (Nat.le_of_ble_eq_true rfl)
          · refine lv_aload_n hx hb d_Mo_next_81 rfl (lv_at hl 1 rfl) ?_
            refine va_get (D := D) (ci := 5) (v := .long (lN (fF b nw))) (C := R_Mo) (T := F_Mo) (N := 18) hx hb hts i_Mo hown hK hP 0 rfl rfl 11 (by decide) (hts _ kw_311_) (fun _ h9 => h9) rfl d_Mo_next_82 ?_
            refine lv_lconst (v := lN 0) hx hb d_Mo_next_85 rfl ?_
            refine nv_lcmp_ne (tgt := 104) hx hb d_Mo_next_86 d_Mo_next_87 (by decide) (by omega) (by decide) (fun c86 => ?_) (fun c86 => ?_)
            · refine lv_aload_n hx hb d_Mo_next_104 rfl (lv_at hl 1 rfl) ?_
              refine va_get (D := D) (ci := 5) (v := .int (bZ (fN b nw = true))) (C := R_Mo) (T := F_Mo) (N := 18) hx hb hts i_Mo hown hK hP 0 rfl rfl 9 (by decide) (hts _ kw_308_) (fun _ h9 => h9) rfl d_Mo_next_105 ?_
              refine lv_iload hx hb d_Mo_next_108 (lv_at hl 4 rfl) ?_
              refine bv_icmp_ne (tgt := 119) hx hb d_Mo_next_110 (by decide) (fun c110 => ?_) (fun c110 => ?_)
              · refine lv_lload_n hx hb d_Mo_next_119 rfl (lv_at hl 2 rfl) ?_
                refine lv_lconst (v := lN 1) hx hb d_Mo_next_120 rfl ?_
                refine nv_ladd hx hb d_Mo_next_121 ?_
                exact ew_l () hx hb hr hlocks d_Mo_next_122 (show lN (b + 1) = lN (nxtF b nw up) from congrArg lN (by first | exact nx_p (Or.inl hfin) (by omega) hfn c110 | exact nx_p (Or.inr ⟨hs3.1.mp (by omega), c69⟩) (by omega) hfn c110)) (hP.sub (ws' := [(h0, .inr (5, [.int (iZ (0)), .ref au, .ref al, .ref av, .ref ao, .ref ah, .ref ar, .ref ap, .int (iZ ((((t).length : Nat) : Int))), .int (bZ (fN b nw = true)), .int (iZ (((fE b nw : Nat) : Int))), .long (lN (fF b nw)), .int (iZ (((fP nw : Nat) : Int))), .int (iZ (((fMo nw : Nat) : Int))), .long (lN (fM b nw)), .int (iZ (fW b nw)), .long (lN (mq)), .int (iZ (mz))]))]) [0] rfl) (hD.sub (ws' := [(h0, .inr (5, [.int (iZ (0)), .ref au, .ref al, .ref av, .ref ao, .ref ah, .ref ar, .ref ap, .int (iZ ((((t).length : Nat) : Int))), .int (bZ (fN b nw = true)), .int (iZ (((fE b nw : Nat) : Int))), .long (lN (fF b nw)), .int (iZ (((fP nw : Nat) : Int))), .int (iZ (((fMo nw : Nat) : Int))), .long (lN (fM b nw)), .int (iZ (fW b nw)), .long (lN (mq)), .int (iZ (mz))]))]) [0] (by decide) rfl) (hK.sub (tys' := []) [] rfl) hS (Nat.le_of_ble_eq_true rfl) (Nat.le_of_ble_eq_true rfl)
              · refine lv_lload_n hx hb d_Mo_next_113 rfl (lv_at hl 2 rfl) ?_
                refine lv_lconst (v := lN 1) hx hb d_Mo_next_114 rfl ?_
                refine nv_lsub hx hb d_Mo_next_115 (Nat.le_trans (show 1 ≤ fSz b nw by omega) (Nat.mod_le b (fS nw))) ?_
                refine lv_goto (tgt := 122) hx hb d_Mo_next_116 (by decide) ?_
                exact ew_l () hx hb hr hlocks d_Mo_next_122 (show lN (b - 1) = lN (nxtF b nw up) from congrArg lN (by first | exact nx_m (Or.inl hfin) (by omega) hfn c110 | exact nx_m (Or.inr ⟨hs3.1.mp (by omega), c69⟩) (by omega) hfn c110)) (hP.sub (ws' := [(h0, .inr (5, [.int (iZ (0)), .ref au, .ref al, .ref av, .ref ao, .ref ah, .ref ar, .ref ap, .int (iZ ((((t).length : Nat) : Int))), .int (bZ (fN b nw = true)), .int (iZ (((fE b nw : Nat) : Int))), .long (lN (fF b nw)), .int (iZ (((fP nw : Nat) : Int))), .int (iZ (((fMo nw : Nat) : Int))), .long (lN (fM b nw)), .int (iZ (fW b nw)), .long (lN (mq)), .int (iZ (mz))]))]) [0] rfl) (hD.sub (ws' := [(h0, .inr (5, [.int (iZ (0)), .ref au, .ref al, .ref av, .ref ao, .ref ah, .ref ar, .ref ap, .int (iZ ((((t).length : Nat) : Int))), .int (bZ (fN b nw = true)), .int (iZ (((fE b nw : Nat) : Int))), .long (lN (fF b nw)), .int (iZ (((fP nw : Nat) : Int))), .int (iZ (((fMo nw : Nat) : Int))), .long (lN (fM b nw)), .int (iZ (fW b nw)), .long (lN (mq)), .int (iZ (mz))]))]) [0] (by decide) rfl) (hK.sub (tys' := []) [] rfl) hS (Nat.le_of_ble_eq_true rfl) (Nat.le_of_ble_eq_true rfl)
            · refine lv_iload hx hb d_Mo_next_90 (lv_at hl 4 rfl) ?_
              refine bv_if_eq (tgt := 99) hx hb d_Mo_next_92 (by decide) (fun c92 => ?_) (fun c92 => ?_)
              · refine lv_lload hx hb d_Mo_next_99 (lv_at hl 0 rfl) ?_
                refine lv_lconst (v := lN 1) hx hb d_Mo_next_101 rfl ?_
                refine nv_lor hx hb d_Mo_next_102 (by omega) (by decide) ?_
                refine nv_top (y := lN (fS nw + 1)) (congrArg lN (by cases nw <;> decide)) ?_
                exact ew_l () hx hb hr hlocks d_Mo_next_103 (show lN (fS nw + 1) = lN (nxtF b nw up) from congrArg lN (nx_0 (by omega) (Or.inr ⟨c92, rfl⟩))) (hP.sub (ws' := [(h0, .inr (5, [.int (iZ (0)), .ref au, .ref al, .ref av, .ref ao, .ref ah, .ref ar, .ref ap, .int (iZ ((((t).length : Nat) : Int))), .int (bZ (fN b nw = true)), .int (iZ (((fE b nw : Nat) : Int))), .long (lN (fF b nw)), .int (iZ (((fP nw : Nat) : Int))), .int (iZ (((fMo nw : Nat) : Int))), .long (lN (fM b nw)), .int (iZ (fW b nw)), .long (lN (mq)), .int (iZ (mz))]))]) [0] rfl) (hD.sub (ws' := [(h0, .inr (5, [.int (iZ (0)), .ref au, .ref al, .ref av, .ref ao, .ref ah, .ref ar, .ref ap, .int (iZ ((((t).length : Nat) : Int))), .int (bZ (fN b nw = true)), .int (iZ (((fE b nw : Nat) : Int))), .long (lN (fF b nw)), .int (iZ (((fP nw : Nat) : Int))), .int (iZ (((fMo nw : Nat) : Int))), .long (lN (fM b nw)), .int (iZ (fW b nw)), .long (lN (mq)), .int (iZ (mz))]))]) [0] (by decide) rfl) (hK.sub (tys' := []) [] rfl) hS (Nat.le_of_ble_eq_true rfl) (Nat.le_of_ble_eq_true rfl)
              · refine lv_lconst (v := lN 1) hx hb d_Mo_next_95 rfl ?_
                refine lv_goto (tgt := 103) hx hb d_Mo_next_96 (by decide) ?_
                exact ew_l () hx hb hr hlocks d_Mo_next_103 (show lN (1) = lN (nxtF b nw up) from congrArg lN (nx_0 (by omega) (Or.inl ⟨c92, rfl⟩))) (hP.sub (ws' := [(h0, .inr (5, [.int (iZ (0)), .ref au, .ref al, .ref av, .ref ao, .ref ah, .ref ar, .ref ap, .int (iZ ((((t).length : Nat) : Int))), .int (bZ (fN b nw = true)), .int (iZ (((fE b nw : Nat) : Int))), .long (lN (fF b nw)), .int (iZ (((fP nw : Nat) : Int))), .int (iZ (((fMo nw : Nat) : Int))), .long (lN (fM b nw)), .int (iZ (fW b nw)), .long (lN (mq)), .int (iZ (mz))]))]) [0] rfl) (hD.sub (ws' := [(h0, .inr (5, [.int (iZ (0)), .ref au, .ref al, .ref av, .ref ao, .ref ah, .ref ar, .ref ap, .int (iZ ((((t).length : Nat) : Int))), .int (bZ (fN b nw = true)), .int (iZ (((fE b nw : Nat) : Int))), .long (lN (fF b nw)), .int (iZ (((fP nw : Nat) : Int))), .int (iZ (((fMo nw : Nat) : Int))), .long (lN (fM b nw)), .int (iZ (fW b nw)), .long (lN (mq)), .int (iZ (mz))]))]) [0] (by decide) rfl) (hK.sub (tys' := []) [] rfl) hS (Nat.le_of_ble_eq_true rfl) (Nat.le_of_ble_eq_true rfl)
        · refine lv_lload_n hx hb d_Mo_next_72 rfl (lv_at hl 2 rfl) ?_
          exact ew_l () hx hb hr hlocks d_Mo_next_73 (show lN (b) = lN (nxtF b nw up) from congrArg lN (nx_b hs3 hfn (by first | exact Or.inl c59 | exact Or.inr c69))) (hP.sub (ws' := [(h0, .inr (5, [.int (iZ (0)), .ref au, .ref al, .ref av, .ref ao, .ref ah, .ref ar, .ref ap, .int (iZ ((((t).length : Nat) : Int))), .int (bZ (fN b nw = true)), .int (iZ (((fE b nw : Nat) : Int))), .long (lN (fF b nw)), .int (iZ (((fP nw : Nat) : Int))), .int (iZ (((fMo nw : Nat) : Int))), .long (lN (fM b nw)), .int (iZ (fW b nw)), .long (lN (mq)), .int (iZ (mz))]))]) [0] rfl) (hD.sub (ws' := [(h0, .inr (5, [.int (iZ (0)), .ref au, .ref al, .ref av, .ref ao, .ref ah, .ref ar, .ref ap, .int (iZ ((((t).length : Nat) : Int))), .int (bZ (fN b nw = true)), .int (iZ (((fE b nw : Nat) : Int))), .long (lN (fF b nw)), .int (iZ (((fP nw : Nat) : Int))), .int (iZ (((fMo nw : Nat) : Int))), .long (lN (fM b nw)), .int (iZ (fW b nw)), .long (lN (mq)), .int (iZ (mz))]))]) [0] (by decide) rfl) (hK.sub (tys' := []) [] rfl) hS (Nat.le_of_ble_eq_true rfl) (Nat.le_of_ble_eq_true rfl)
set_option maxHeartbeats 4000000 in
set_option maxRecDepth 100000 in
theorem c_Mo_next (l : Launch) (D : va_G) (Z : Nat → Nat) (hz9 : Nat) (h0 : Nat) (th : Int) (au : Nat) (al : Nat) (av : Nat) (ao : Nat) (ah : Nat) (ar : Nat) (ap : Nat) (t : List Nat) (ng : Bool) (me : Nat) (mf : Nat) (mb : Nat) (mm : Nat) (ms : Nat) (mt : Int) (mq : Nat) (mz : Int) (b : Nat) (nw : Bool) (up : Bool) (hb9 : b < 18446744073709551616) (hok : nw = true → b < 4294967296) : Met l y_Mo_next (.code y_Mo_next b_Mo_next 7 (some .long) :: gT) ({ frames := 1, cells := 0, slots := 0, locals := 23 } : Room) (va_Pc [.ref h0, .long (lN (b)), .int (bZ (nw = true)), .int (bZ (up = true))] (cpre D Z [(h0, .inr (5, [.int (iZ (th)), .ref au, .ref al, .ref av, .ref ao, .ref ah, .ref ar, .ref ap, .int (iZ ((((t).length : Nat) : Int))), .int (bZ (ng = true)), .int (iZ (((me : Nat) : Int))), .long (lN (mf)), .int (iZ (((mb : Nat) : Int))), .int (iZ (((mm : Nat) : Int))), .long (lN (ms)), .int (iZ (mt)), .long (lN (mq)), .int (iZ (mz))]))] [] hz9)) (Qc_Mo_next D h0 th au al av ao ah ar ap t ng me mf mb mm ms mt mq mz b nw up (va_A [(h0, .inr (5, [.int (iZ (th)), .ref au, .ref al, .ref av, .ref ao, .ref ah, .ref ar, .ref ap, .int (iZ ((((t).length : Nat) : Int))), .int (bZ (ng = true)), .int (iZ (((me : Nat) : Int))), .long (lN (mf)), .int (iZ (((mb : Nat) : Int))), .int (iZ (((mm : Nat) : Int))), .long (lN (ms)), .int (iZ (mt)), .long (lN (mq)), .int (iZ (mz))]))] hz9)) 0 0 (va_A [(h0, .inr (5, [.int (iZ (th)), .ref au, .ref al, .ref av, .ref ao, .ref ah, .ref ar, .ref ap, .int (iZ ((((t).length : Nat) : Int))), .int (bZ (ng = true)), .int (iZ (((me : Nat) : Int))), .long (lN (mf)), .int (iZ (((mb : Nat) : Int))), .int (iZ (((mm : Nat) : Int))), .long (lN (ms)), .int (iZ (mt)), .long (lN (mq)), .int (iZ (mz))]))] hz9) := by
  refine met_go (Qf := Qc_Mo_next D h0 th au al av ao ah ar ap t ng me mf mb mm ms mt mq mz b nw up) (ff := fun A => A) (by decide) ?_
  intro p e s m below meth c A C0 hin hsz9 hA hE hK hP hD
  obtain ⟨hx, hb, hml, hown, hts, hr, hlocks⟩ := id C0
  have hS : va_S A s.heap s.heap [] := va_S.rf
  have hl := lv_entry [.ref h0, .long (lN (b)), .int (bZ (nw = true)), .int (bZ (up = true))] (n := 7) (Nat.le_of_ble_eq_true rfl)
  rw [lg_entry_eq]
  generalize (lg_sl [.ref h0, .long (lN (b)), .int (bZ (nw = true)), .int (bZ (up = true))] ++ List.replicate (7 - (lg_sl [.ref h0, .long (lN (b)), .int (bZ (nw = true)), .int (bZ (up = true))]).length) Slot.unset).toArray = ls at hl ⊢
  have hl : lv_has ls 7 [(0, .ref h0), (1, .long (lN (b))), (3, .int (bZ (nw = true))), (4, .int (bZ (up = true)))] := hl
  have hfe := fE_lt b nw
  have hmo := fMo_lt nw
  have hff := fF_lt b nw
  have hpp := fP_pow nw
  have hfi := fin_iff b nw
  obtain ⟨hs1, hs2⟩ := sz_facts b nw
  have hfn := fN_iff b nw
  have hsl := fS_lt nw
  have hsp := fS_pow nw
  refine lv_aload_n hx hb d_Mo_next_0 rfl (lv_at hl 0 rfl) ?_
  refine lv_lload_n hx hb d_Mo_next_1 rfl (lv_at hl 1 rfl) ?_
  refine lv_iload_n hx hb d_Mo_next_2 rfl (lv_at hl 2 rfl) ?_
  refine kg_i (kr_S (As := [.long (lN (b)), .int (bZ (nw = true))]) (rest := [.ref h0]) C0 (c_Mo_isWrong l D Z _ b nw (by assumption)) q_y_Mo_isWrong kw_365_ kw_364_ kw_314_ hd_y_Mo_isWrong rfl rfl ⟨Nat.le_of_ble_eq_true rfl, Nat.le_of_ble_eq_true rfl⟩ (hP.sub (ws' := []) [] rfl) (hD.sub (ws' := []) [] (by decide) rfl) (hK.sub (tys' := []) [] rfl) hE hS (va_free (wc := []) hD hS hA [] rfl) rfl hl.1 rfl (Nat.le_of_ble_eq_true rfl) d_Mo_next_3 ⟨Nat.le_of_ble_eq_true rfl, Nat.le_of_ble_eq_true rfl⟩) (fun r hr1 => ?_)
  obtain rfl : r = bZ (nw = true ∧ ¬ b < 4294967296) := hr1
  refine bv_if_eq (tgt := 13) hx hb d_Mo_next_6 (by decide) (fun c6 => ?_) (fun c6 => absurd c6 (fun q => q.2 (hok q.1)))
  refine lv_iconst (v := iZ (0)) hx hb d_Mo_next_13 rfl ?_
  refine va_put (D := D) (ci := 5) (v := .int (iZ (0))) (ty := .int) (C := R_Mo) (T := F_Mo) (N := 18) hx hb hts i_Mo t_Mo t_Mo_ok n_Mo hown hK hP hD hS 0 rfl rfl 0 (by decide) (hts _ kw_304_) (fun _ h9 => h9) rfl (by decide +kernel) rfl rfl (Nat.le_of_ble_eq_true rfl) d_Mo_next_14 (fun H locs hP hD hS => ?_)
  have hP : va_P D classes [(h0, .inr (5, [.int (iZ (0)), .ref au, .ref al, .ref av, .ref ao, .ref ah, .ref ar, .ref ap, .int (iZ ((((t).length : Nat) : Int))), .int (bZ (ng = true)), .int (iZ (((me : Nat) : Int))), .long (lN (mf)), .int (iZ (((mb : Nat) : Int))), .int (iZ (((mm : Nat) : Int))), .long (lN (ms)), .int (iZ (mt)), .long (lN (mq)), .int (iZ (mz))]))] H := hP
  have hD : va_D A [(h0, .inr (5, [.int (iZ (0)), .ref au, .ref al, .ref av, .ref ao, .ref ah, .ref ar, .ref ap, .int (iZ ((((t).length : Nat) : Int))), .int (bZ (ng = true)), .int (iZ (((me : Nat) : Int))), .long (lN (mf)), .int (iZ (((mb : Nat) : Int))), .int (iZ (((mm : Nat) : Int))), .long (lN (ms)), .int (iZ (mt)), .long (lN (mq)), .int (iZ (mz))]))] := hD
  refine lv_aload_n hx hb d_Mo_next_17 rfl (lv_at hl 0 rfl) ?_
  refine va_get (D := D) (ci := 5) (v := .int (iZ (0))) (C := R_Mo) (T := F_Mo) (N := 18) hx hb hts i_Mo hown hK hP 0 rfl rfl 0 (by decide) (hts _ kw_304_) (fun _ h9 => h9) rfl d_Mo_next_18 ?_
  refine zv_if_le (tgt := 26) hx hb d_Mo_next_21 (by decide) (by omega) (fun c21 => ?_) (fun c21 => absurd c21 (by decide))
  refine lv_aload_n hx hb d_Mo_next_26 rfl (lv_at hl 0 rfl) ?_
  refine lv_lload_n hx hb d_Mo_next_27 rfl (lv_at hl 1 rfl) ?_
  refine lv_iload_n hx hb d_Mo_next_28 rfl (lv_at hl 2 rfl) ?_
  refine kw_v (wr := []) (tr := []) (kr_V (C0 := R_Mo) (ci := 5) (i0 := 0) (As := [.long (lN (b)), .int (bZ (nw = true))]) (rest := []) C0 (c_Mo_open l D Z _ h0 0 au al av ao ah ar ap t ng me mf mb mm ms mt mq mz b nw (by assumption) (by assumption)) q_y_Mo_open kw_366_ kw_367_ kw_368_ kw_314_ hd_y_Mo_open rfl rfl ⟨Nat.le_of_ble_eq_true rfl, Nat.le_of_ble_eq_true rfl⟩ (hP.sub (ws' := [(h0, .inr (5, [.int (iZ (0)), .ref au, .ref al, .ref av, .ref ao, .ref ah, .ref ar, .ref ap, .int (iZ ((((t).length : Nat) : Int))), .int (bZ (ng = true)), .int (iZ (((me : Nat) : Int))), .long (lN (mf)), .int (iZ (((mb : Nat) : Int))), .int (iZ (((mm : Nat) : Int))), .long (lN (ms)), .int (iZ (mt)), .long (lN (mq)), .int (iZ (mz))]))]) [0] rfl) (hD.sub (ws' := [(h0, .inr (5, [.int (iZ (0)), .ref au, .ref al, .ref av, .ref ao, .ref ah, .ref ar, .ref ap, .int (iZ ((((t).length : Nat) : Int))), .int (bZ (ng = true)), .int (iZ (((me : Nat) : Int))), .long (lN (mf)), .int (iZ (((mb : Nat) : Int))), .int (iZ (((mm : Nat) : Int))), .long (lN (ms)), .int (iZ (mt)), .long (lN (mq)), .int (iZ (mz))]))]) [0] (by decide) rfl) (hK.sub (tys' := []) [] rfl) hE hS (va_free (wc := [(h0, .inr (5, [.int (iZ (0)), .ref au, .ref al, .ref av, .ref ao, .ref ah, .ref ar, .ref ap, .int (iZ ((((t).length : Nat) : Int))), .int (bZ (ng = true)), .int (iZ (((me : Nat) : Int))), .long (lN (mf)), .int (iZ (((mb : Nat) : Int))), .int (iZ (((mm : Nat) : Int))), .long (lN (ms)), .int (iZ (mt)), .long (lN (mq)), .int (iZ (mz))]))]) hD hS hA [0] rfl) rfl rfl rfl hl.1 rfl (Nat.le_of_ble_eq_true rfl) d_Mo_next_29 ⟨Nat.le_of_ble_eq_true rfl, Nat.le_of_ble_eq_true rfl⟩) hP hD hK hS hA [0] [] [] rfl rfl (by decide) (by decide) rfl (fun u H locs hpost hP hD hK hS => ?_)
  have hP : va_P D classes [(h0, .inr (5, [.int (iZ (0)), .ref au, .ref al, .ref av, .ref ao, .ref ah, .ref ar, .ref ap, .int (iZ ((((t).length : Nat) : Int))), .int (bZ (fN b nw = true)), .int (iZ (((fE b nw : Nat) : Int))), .long (lN (fF b nw)), .int (iZ (((fP nw : Nat) : Int))), .int (iZ (((fMo nw : Nat) : Int))), .long (lN (fM b nw)), .int (iZ (fW b nw)), .long (lN (mq)), .int (iZ (mz))]))] H := hP
  have hD : va_D A [(h0, .inr (5, [.int (iZ (0)), .ref au, .ref al, .ref av, .ref ao, .ref ah, .ref ar, .ref ap, .int (iZ ((((t).length : Nat) : Int))), .int (bZ (fN b nw = true)), .int (iZ (((fE b nw : Nat) : Int))), .long (lN (fF b nw)), .int (iZ (((fP nw : Nat) : Int))), .int (iZ (((fMo nw : Nat) : Int))), .long (lN (fM b nw)), .int (iZ (fW b nw)), .long (lN (mq)), .int (iZ (mz))]))] := hD
  have hK : va_K D classes [] s := hK
  refine lv_lconst (v := lN 1) hx hb d_Mo_next_32 rfl ?_
  refine lv_iload_n hx hb d_Mo_next_33 rfl (lv_at hl 2 rfl) ?_
  refine bv_if_eq (tgt := 42) hx hb d_Mo_next_34 (by decide) (fun c34 => ?_) (fun c34 => ?_)
  · refine lv_bipush (v := iZ (63)) hx hb d_Mo_next_42 (by decide) ?_
    refine zv_top (y := iZ (((fSh nw : Nat) : Int))) (congrArg iZ (by unfold fSh; rw [if_neg c34]; rfl)) ?_
    exact lp_Mo_next_44 h0 th au al av ao ah ar ap t ng me mf mb mm ms mt mq mz b nw up hb9 hok C0 hA hE (0 + 1)  _ _ _ (Nat.lt_succ_self _)  (hK.sub [] rfl) (hP.sub [0] rfl) (hD.sub [0] (by decide) rfl) hS (lv_sub hl [0, 1, 2, 3] rfl)
  · refine lv_bipush (v := iZ (31)) hx hb d_Mo_next_37 (by decide) ?_
    refine zv_top (y := iZ (((fSh nw : Nat) : Int))) (congrArg iZ (by unfold fSh; rw [if_pos c34]; rfl)) ?_
    refine lv_goto (tgt := 44) hx hb d_Mo_next_39 (by decide) ?_
    exact lp_Mo_next_44 h0 th au al av ao ah ar ap t ng me mf mb mm ms mt mq mz b nw up hb9 hok C0 hA hE (0 + 1)  _ _ _ (Nat.lt_succ_self _)  (hK.sub [] rfl) (hP.sub [0] rfl) (hD.sub [0] (by decide) rfl) hS (lv_sub hl [0, 1, 2, 3] rfl)
abbrev Qc_Mo_next_w (D : va_G) (h0 : Nat) (th : Int) (au : Nat) (al : Nat) (av : Nat) (ao : Nat) (ah : Nat) (ar : Nat) (ap : Nat) (t : List Nat) (ng : Bool) (me : Nat) (mf : Nat) (mb : Nat) (mm : Nat) (ms : Nat) (mt : Int) (mq : Nat) (mz : Int) (b : Nat) (nw : Bool) (up : Bool) (A : Nat → Prop) : Array Value → State → Outcome → State → Prop := va_Ql (fun (r : Int64) (u : Unit) => r = lN (0)) (fun (u : Unit) t9 => cpost D A [(h0, .inr (5, [.int (iZ (1)), .ref au, .ref al, .ref av, .ref ao, .ref ah, .ref ar, .ref ap, .int (iZ ((((t).length : Nat) : Int))), .int (bZ (ng = true)), .int (iZ (((me : Nat) : Int))), .long (lN (mf)), .int (iZ (((mb : Nat) : Int))), .int (iZ (((mm : Nat) : Int))), .long (lN (ms)), .int (iZ (mt)), .long (lN (mq)), .int (iZ (mz))]))] [] t9) A
set_option maxHeartbeats 4000000 in
set_option maxRecDepth 100000 in
theorem c_Mo_next_w (l : Launch) (D : va_G) (Z : Nat → Nat) (hz9 : Nat) (h0 : Nat) (th : Int) (au : Nat) (al : Nat) (av : Nat) (ao : Nat) (ah : Nat) (ar : Nat) (ap : Nat) (t : List Nat) (ng : Bool) (me : Nat) (mf : Nat) (mb : Nat) (mm : Nat) (ms : Nat) (mt : Int) (mq : Nat) (mz : Int) (b : Nat) (nw : Bool) (up : Bool) (hb9 : b < 18446744073709551616) (hno : nw = true ∧ ¬ b < 4294967296) : Met l y_Mo_next (.code y_Mo_next b_Mo_next 7 (some .long) :: gT) ({ frames := 1, cells := 0, slots := 0, locals := 22 } : Room) (va_Pc [.ref h0, .long (lN (b)), .int (bZ (nw = true)), .int (bZ (up = true))] (cpre D Z [(h0, .inr (5, [.int (iZ (th)), .ref au, .ref al, .ref av, .ref ao, .ref ah, .ref ar, .ref ap, .int (iZ ((((t).length : Nat) : Int))), .int (bZ (ng = true)), .int (iZ (((me : Nat) : Int))), .long (lN (mf)), .int (iZ (((mb : Nat) : Int))), .int (iZ (((mm : Nat) : Int))), .long (lN (ms)), .int (iZ (mt)), .long (lN (mq)), .int (iZ (mz))]))] [] hz9)) (Qc_Mo_next_w D h0 th au al av ao ah ar ap t ng me mf mb mm ms mt mq mz b nw up (va_A [(h0, .inr (5, [.int (iZ (th)), .ref au, .ref al, .ref av, .ref ao, .ref ah, .ref ar, .ref ap, .int (iZ ((((t).length : Nat) : Int))), .int (bZ (ng = true)), .int (iZ (((me : Nat) : Int))), .long (lN (mf)), .int (iZ (((mb : Nat) : Int))), .int (iZ (((mm : Nat) : Int))), .long (lN (ms)), .int (iZ (mt)), .long (lN (mq)), .int (iZ (mz))]))] hz9)) 0 0 (va_A [(h0, .inr (5, [.int (iZ (th)), .ref au, .ref al, .ref av, .ref ao, .ref ah, .ref ar, .ref ap, .int (iZ ((((t).length : Nat) : Int))), .int (bZ (ng = true)), .int (iZ (((me : Nat) : Int))), .long (lN (mf)), .int (iZ (((mb : Nat) : Int))), .int (iZ (((mm : Nat) : Int))), .long (lN (ms)), .int (iZ (mt)), .long (lN (mq)), .int (iZ (mz))]))] hz9) := by
  refine met_go (Qf := Qc_Mo_next_w D h0 th au al av ao ah ar ap t ng me mf mb mm ms mt mq mz b nw up) (ff := fun A => A) (by decide) ?_
  intro p e s m below meth c A C0 hin hsz9 hA hE hK hP hD
  obtain ⟨hx, hb, hml, hown, hts, hr, hlocks⟩ := id C0
  have hS : va_S A s.heap s.heap [] := va_S.rf
  have hl := lv_entry [.ref h0, .long (lN (b)), .int (bZ (nw = true)), .int (bZ (up = true))] (n := 7) (Nat.le_of_ble_eq_true rfl)
  rw [lg_entry_eq]
  generalize (lg_sl [.ref h0, .long (lN (b)), .int (bZ (nw = true)), .int (bZ (up = true))] ++ List.replicate (7 - (lg_sl [.ref h0, .long (lN (b)), .int (bZ (nw = true)), .int (bZ (up = true))]).length) Slot.unset).toArray = ls at hl ⊢
  have hl : lv_has ls 7 [(0, .ref h0), (1, .long (lN (b))), (3, .int (bZ (nw = true))), (4, .int (bZ (up = true)))] := hl
  refine lv_aload_n hx hb d_Mo_next_0 rfl (lv_at hl 0 rfl) ?_
  refine lv_lload_n hx hb d_Mo_next_1 rfl (lv_at hl 1 rfl) ?_
  refine lv_iload_n hx hb d_Mo_next_2 rfl (lv_at hl 2 rfl) ?_
  refine kg_i (kr_S (As := [.long (lN (b)), .int (bZ (nw = true))]) (rest := [.ref h0]) C0 (c_Mo_isWrong l D Z _ b nw (by assumption)) q_y_Mo_isWrong kw_365_ kw_364_ kw_314_ hd_y_Mo_isWrong rfl rfl ⟨Nat.le_of_ble_eq_true rfl, Nat.le_of_ble_eq_true rfl⟩ (hP.sub (ws' := []) [] rfl) (hD.sub (ws' := []) [] (by decide) rfl) (hK.sub (tys' := []) [] rfl) hE hS (va_free (wc := []) hD hS hA [] rfl) rfl hl.1 rfl (Nat.le_of_ble_eq_true rfl) d_Mo_next_3 ⟨Nat.le_of_ble_eq_true rfl, Nat.le_of_ble_eq_true rfl⟩) (fun r hr1 => ?_)
  obtain rfl : r = bZ (nw = true ∧ ¬ b < 4294967296) := hr1
  refine bv_if_eq (tgt := 13) hx hb d_Mo_next_6 (by decide) (fun c6 => absurd hno c6) (fun c6 => ?_)
  refine lv_iconst (v := iZ (1)) hx hb d_Mo_next_9 rfl ?_
  refine lv_goto (tgt := 14) hx hb d_Mo_next_10 (by decide) ?_
  refine va_put (D := D) (ci := 5) (v := .int (iZ (1))) (ty := .int) (C := R_Mo) (T := F_Mo) (N := 18) hx hb hts i_Mo t_Mo t_Mo_ok n_Mo hown hK hP hD hS 0 rfl rfl 0 (by decide) (hts _ kw_304_) (fun _ h9 => h9) rfl (by decide +kernel) rfl rfl (Nat.le_of_ble_eq_true rfl) d_Mo_next_14 (fun H locs hP hD hS => ?_)
  have hP : va_P D classes [(h0, .inr (5, [.int (iZ (1)), .ref au, .ref al, .ref av, .ref ao, .ref ah, .ref ar, .ref ap, .int (iZ ((((t).length : Nat) : Int))), .int (bZ (ng = true)), .int (iZ (((me : Nat) : Int))), .long (lN (mf)), .int (iZ (((mb : Nat) : Int))), .int (iZ (((mm : Nat) : Int))), .long (lN (ms)), .int (iZ (mt)), .long (lN (mq)), .int (iZ (mz))]))] H := hP
  have hD : va_D A [(h0, .inr (5, [.int (iZ (1)), .ref au, .ref al, .ref av, .ref ao, .ref ah, .ref ar, .ref ap, .int (iZ ((((t).length : Nat) : Int))), .int (bZ (ng = true)), .int (iZ (((me : Nat) : Int))), .long (lN (mf)), .int (iZ (((mb : Nat) : Int))), .int (iZ (((mm : Nat) : Int))), .long (lN (ms)), .int (iZ (mt)), .long (lN (mq)), .int (iZ (mz))]))] := hD
  refine lv_aload_n hx hb d_Mo_next_17 rfl (lv_at hl 0 rfl) ?_
  refine va_get (D := D) (ci := 5) (v := .int (iZ (1))) (C := R_Mo) (T := F_Mo) (N := 18) hx hb hts i_Mo hown hK hP 0 rfl rfl 0 (by decide) (hts _ kw_304_) (fun _ h9 => h9) rfl d_Mo_next_18 ?_
  refine zv_if_le (tgt := 26) hx hb d_Mo_next_21 (by decide) (by omega) (fun c21 => absurd c21 (by decide)) (fun c21 => ?_)
  refine lv_lconst (v := lN 0) hx hb d_Mo_next_24 rfl ?_
  exact ew_l () hx hb hr hlocks d_Mo_next_25 (show lN (0) = lN (0) from rfl) (hP.sub (ws' := [(h0, .inr (5, [.int (iZ (1)), .ref au, .ref al, .ref av, .ref ao, .ref ah, .ref ar, .ref ap, .int (iZ ((((t).length : Nat) : Int))), .int (bZ (ng = true)), .int (iZ (((me : Nat) : Int))), .long (lN (mf)), .int (iZ (((mb : Nat) : Int))), .int (iZ (((mm : Nat) : Int))), .long (lN (ms)), .int (iZ (mt)), .long (lN (mq)), .int (iZ (mz))]))]) [0] rfl) (hD.sub (ws' := [(h0, .inr (5, [.int (iZ (1)), .ref au, .ref al, .ref av, .ref ao, .ref ah, .ref ar, .ref ap, .int (iZ ((((t).length : Nat) : Int))), .int (bZ (ng = true)), .int (iZ (((me : Nat) : Int))), .long (lN (mf)), .int (iZ (((mb : Nat) : Int))), .int (iZ (((mm : Nat) : Int))), .long (lN (ms)), .int (iZ (mt)), .long (lN (mq)), .int (iZ (mz))]))]) [0] (by decide) rfl) (hK.sub (tys' := []) [] rfl) hS (Nat.le_of_ble_eq_true rfl) (Nat.le_of_ble_eq_true rfl)
