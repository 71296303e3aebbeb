theorem kw_312_ : Cond.constant R_Mo 58 (1000000000) ∈ gT := gT_in 730 (by decide +kernel) (by decide +kernel)
theorem d_Mo_setUnit_0 : decode b_Mo_setUnit 0 = .ok (.iconst 0, 1) := by decide +kernel
theorem d_Mo_setUnit_1 : decode b_Mo_setUnit 1 = .ok (.istore_n 2, 1) := by decide +kernel
theorem d_Mo_setUnit_2 : decode b_Mo_setUnit 2 = .ok (.iload_n 2, 1) := by decide +kernel
theorem d_Mo_setUnit_3 : decode b_Mo_setUnit 3 = .ok (.sipush 156, 3) := by decide +kernel
theorem d_Mo_setUnit_6 : decode b_Mo_setUnit 6 = .ok (.if_icmp .ge 26, 3) := by decide +kernel
theorem d_Mo_setUnit_9 : decode b_Mo_setUnit 9 = .ok (.aload_n 0, 1) := by decide +kernel
theorem d_Mo_setUnit_10 : decode b_Mo_setUnit 10 = .ok (.getfield 7, 3) := by decide +kernel
theorem d_Mo_setUnit_13 : decode b_Mo_setUnit 13 = .ok (.iload_n 2, 1) := by decide +kernel
theorem d_Mo_setUnit_14 : decode b_Mo_setUnit 14 = .ok (.iload_n 2, 1) := by decide +kernel
theorem d_Mo_setUnit_15 : decode b_Mo_setUnit 15 = .ok (.bipush 120, 2) := by decide +kernel
theorem d_Mo_setUnit_17 : decode b_Mo_setUnit 17 = .ok (.if_icmp .ne 7, 3) := by decide +kernel
theorem d_Mo_setUnit_20 : decode b_Mo_setUnit 20 = .ok (.iconst 1, 1) := by decide +kernel
theorem d_Mo_setUnit_21 : decode b_Mo_setUnit 21 = .ok (.goto 4, 3) := by decide +kernel
theorem d_Mo_setUnit_24 : decode b_Mo_setUnit 24 = .ok (.iconst 0, 1) := by decide +kernel
theorem d_Mo_setUnit_25 : decode b_Mo_setUnit 25 = .ok (.iastore, 1) := by decide +kernel
theorem d_Mo_setUnit_26 : decode b_Mo_setUnit 26 = .ok (.iinc 2 1, 3) := by decide +kernel
theorem d_Mo_setUnit_29 : decode b_Mo_setUnit 29 = .ok (.goto (-27), 3) := by decide +kernel
theorem d_Mo_setUnit_32 : decode b_Mo_setUnit 32 = .ok (.iload_n 1, 1) := by decide +kernel
theorem d_Mo_setUnit_33 : decode b_Mo_setUnit 33 = .ok (.istore_n 2, 1) := by decide +kernel
theorem d_Mo_setUnit_34 : decode b_Mo_setUnit 34 = .ok (.iload_n 2, 1) := by decide +kernel
theorem d_Mo_setUnit_35 : decode b_Mo_setUnit 35 = .ok (.ifCond .le 68, 3) := by decide +kernel
theorem d_Mo_setUnit_38 : decode b_Mo_setUnit 38 = .ok (.iconst 0, 1) := by decide +kernel
theorem d_Mo_setUnit_39 : decode b_Mo_setUnit 39 = .ok (.istore_n 3, 1) := by decide +kernel
theorem d_Mo_setUnit_40 : decode b_Mo_setUnit 40 = .ok (.iconst 0, 1) := by decide +kernel
theorem d_Mo_setUnit_41 : decode b_Mo_setUnit 41 = .ok (.istore 4, 2) := by decide +kernel
theorem d_Mo_setUnit_43 : decode b_Mo_setUnit 43 = .ok (.iload 4, 2) := by decide +kernel
theorem d_Mo_setUnit_45 : decode b_Mo_setUnit 45 = .ok (.sipush 156, 3) := by decide +kernel
theorem d_Mo_setUnit_48 : decode b_Mo_setUnit 48 = .ok (.if_icmp .ge 49, 3) := by decide +kernel
theorem d_Mo_setUnit_51 : decode b_Mo_setUnit 51 = .ok (.iconst 2, 1) := by decide +kernel
theorem d_Mo_setUnit_52 : decode b_Mo_setUnit 52 = .ok (.aload_n 0, 1) := by decide +kernel
theorem d_Mo_setUnit_53 : decode b_Mo_setUnit 53 = .ok (.getfield 7, 3) := by decide +kernel
theorem d_Mo_setUnit_56 : decode b_Mo_setUnit 56 = .ok (.iload 4, 2) := by decide +kernel
theorem d_Mo_setUnit_58 : decode b_Mo_setUnit 58 = .ok (.iaload, 1) := by decide +kernel
theorem d_Mo_setUnit_59 : decode b_Mo_setUnit 59 = .ok (.imul, 1) := by decide +kernel
theorem d_Mo_setUnit_60 : decode b_Mo_setUnit 60 = .ok (.iload_n 3, 1) := by decide +kernel
theorem d_Mo_setUnit_61 : decode b_Mo_setUnit 61 = .ok (.iadd, 1) := by decide +kernel
theorem d_Mo_setUnit_62 : decode b_Mo_setUnit 62 = .ok (.istore 5, 2) := by decide +kernel
theorem d_Mo_setUnit_64 : decode b_Mo_setUnit 64 = .ok (.iload 5, 2) := by decide +kernel
theorem d_Mo_setUnit_66 : decode b_Mo_setUnit 66 = .ok (.ldc 58, 2) := by decide +kernel
theorem d_Mo_setUnit_68 : decode b_Mo_setUnit 68 = .ok (.if_icmp .lt 7, 3) := by decide +kernel
theorem d_Mo_setUnit_71 : decode b_Mo_setUnit 71 = .ok (.iconst 1, 1) := by decide +kernel
theorem d_Mo_setUnit_72 : decode b_Mo_setUnit 72 = .ok (.goto 4, 3) := by decide +kernel
theorem d_Mo_setUnit_75 : decode b_Mo_setUnit 75 = .ok (.iconst 0, 1) := by decide +kernel
theorem d_Mo_setUnit_76 : decode b_Mo_setUnit 76 = .ok (.istore_n 3, 1) := by decide +kernel
theorem d_Mo_setUnit_77 : decode b_Mo_setUnit 77 = .ok (.aload_n 0, 1) := by decide +kernel
theorem d_Mo_setUnit_78 : decode b_Mo_setUnit 78 = .ok (.getfield 7, 3) := by decide +kernel
theorem d_Mo_setUnit_81 : decode b_Mo_setUnit 81 = .ok (.iload 4, 2) := by decide +kernel
theorem d_Mo_setUnit_83 : decode b_Mo_setUnit 83 = .ok (.iload 5, 2) := by decide +kernel
theorem d_Mo_setUnit_85 : decode b_Mo_setUnit 85 = .ok (.iload_n 3, 1) := by decide +kernel
theorem d_Mo_setUnit_86 : decode b_Mo_setUnit 86 = .ok (.ldc 58, 2) := by decide +kernel
theorem d_Mo_setUnit_88 : decode b_Mo_setUnit 88 = .ok (.imul, 1) := by decide +kernel
theorem d_Mo_setUnit_89 : decode b_Mo_setUnit 89 = .ok (.isub, 1) := by decide +kernel
theorem d_Mo_setUnit_90 : decode b_Mo_setUnit 90 = .ok (.iastore, 1) := by decide +kernel
theorem d_Mo_setUnit_91 : decode b_Mo_setUnit 91 = .ok (.iinc 4 1, 3) := by decide +kernel
theorem d_Mo_setUnit_94 : decode b_Mo_setUnit 94 = .ok (.goto (-51), 3) := by decide +kernel
theorem d_Mo_setUnit_97 : decode b_Mo_setUnit 97 = .ok (.iinc 2 (-1), 3) := by decide +kernel
theorem d_Mo_setUnit_100 : decode b_Mo_setUnit 100 = .ok (.goto (-66), 3) := by decide +kernel
theorem d_Mo_setUnit_103 : decode b_Mo_setUnit 103 = .ok (.iload_n 1, 1) := by decide +kernel
theorem d_Mo_setUnit_104 : decode b_Mo_setUnit 104 = .ok (.istore_n 2, 1) := by decide +kernel
theorem d_Mo_setUnit_105 : decode b_Mo_setUnit 105 = .ok (.iload_n 2, 1) := by decide +kernel
theorem d_Mo_setUnit_106 : decode b_Mo_setUnit 106 = .ok (.ifCond .ge 57, 3) := by decide +kernel
theorem d_Mo_setUnit_109 : decode b_Mo_setUnit 109 = .ok (.iconst 0, 1) := by decide +kernel
theorem d_Mo_setUnit_110 : decode b_Mo_setUnit 110 = .ok (.istore_n 3, 1) := by decide +kernel
theorem d_Mo_setUnit_111 : decode b_Mo_setUnit 111 = .ok (.sipush 155, 3) := by decide +kernel
theorem d_Mo_setUnit_114 : decode b_Mo_setUnit 114 = .ok (.istore 4, 2) := by decide +kernel
theorem d_Mo_setUnit_116 : decode b_Mo_setUnit 116 = .ok (.iload 4, 2) := by decide +kernel
theorem d_Mo_setUnit_118 : decode b_Mo_setUnit 118 = .ok (.ifCond .lt 39, 3) := by decide +kernel
theorem d_Mo_setUnit_121 : decode b_Mo_setUnit 121 = .ok (.aload_n 0, 1) := by decide +kernel
theorem d_Mo_setUnit_122 : decode b_Mo_setUnit 122 = .ok (.getfield 7, 3) := by decide +kernel
theorem d_Mo_setUnit_125 : decode b_Mo_setUnit 125 = .ok (.iload 4, 2) := by decide +kernel
theorem d_Mo_setUnit_127 : decode b_Mo_setUnit 127 = .ok (.iaload, 1) := by decide +kernel
theorem d_Mo_setUnit_128 : decode b_Mo_setUnit 128 = .ok (.iload_n 3, 1) := by decide +kernel
theorem d_Mo_setUnit_129 : decode b_Mo_setUnit 129 = .ok (.ldc 58, 2) := by decide +kernel
theorem d_Mo_setUnit_131 : decode b_Mo_setUnit 131 = .ok (.imul, 1) := by decide +kernel
theorem d_Mo_setUnit_132 : decode b_Mo_setUnit 132 = .ok (.iadd, 1) := by decide +kernel
theorem d_Mo_setUnit_133 : decode b_Mo_setUnit 133 = .ok (.istore 5, 2) := by decide +kernel
theorem d_Mo_setUnit_135 : decode b_Mo_setUnit 135 = .ok (.iload 5, 2) := by decide +kernel
theorem d_Mo_setUnit_137 : decode b_Mo_setUnit 137 = .ok (.iconst 1, 1) := by decide +kernel
theorem d_Mo_setUnit_138 : decode b_Mo_setUnit 138 = .ok (.iand, 1) := by decide +kernel
theorem d_Mo_setUnit_139 : decode b_Mo_setUnit 139 = .ok (.istore_n 3, 1) := by decide +kernel
theorem d_Mo_setUnit_140 : decode b_Mo_setUnit 140 = .ok (.aload_n 0, 1) := by decide +kernel
theorem d_Mo_setUnit_141 : decode b_Mo_setUnit 141 = .ok (.getfield 7, 3) := by decide +kernel
theorem d_Mo_setUnit_144 : decode b_Mo_setUnit 144 = .ok (.iload 4, 2) := by decide +kernel
theorem d_Mo_setUnit_146 : decode b_Mo_setUnit 146 = .ok (.iload 5, 2) := by decide +kernel
theorem d_Mo_setUnit_148 : decode b_Mo_setUnit 148 = .ok (.iconst 2, 1) := by decide +kernel
theorem d_Mo_setUnit_149 : decode b_Mo_setUnit 149 = .ok (.idiv, 1) := by decide +kernel
theorem d_Mo_setUnit_150 : decode b_Mo_setUnit 150 = .ok (.iastore, 1) := by decide +kernel
theorem d_Mo_setUnit_151 : decode b_Mo_setUnit 151 = .ok (.iinc 4 (-1), 3) := by decide +kernel
theorem d_Mo_setUnit_154 : decode b_Mo_setUnit 154 = .ok (.goto (-38), 3) := by decide +kernel
theorem d_Mo_setUnit_157 : decode b_Mo_setUnit 157 = .ok (.iinc 2 1, 3) := by decide +kernel
theorem d_Mo_setUnit_160 : decode b_Mo_setUnit 160 = .ok (.goto (-55), 3) := by decide +kernel
theorem d_Mo_setUnit_163 : decode b_Mo_setUnit 163 = .ok (.return_, 1) := by decide +kernel
abbrev Qc_Mo_setUnit (D : va_G) (h0 : Nat) (th : Int) (au : Nat) (al : Nat) (av : Nat) (ao : Nat) (ah : Nat) (ar : Nat) (ap : Nat) (t : List Nat) (ng : Bool) (me : Nat) (mf : Nat) (mb : Nat) (mm : Nat) (ms : Nat) (mt : Int) (mq : Nat) (mz : Int) (kU : ClassId) (fu : Nat → Int32) (z : Int) (A : Nat → Prop) : Array Value → State → Outcome → State → Prop := va_Qv (fun u : Nat → Int32 => LimI u (uN z)) (fun (u : Nat → Int32) t9 => cpost D A [(h0, .inr (5, [.int (iZ (th)), .ref au, .ref al, .ref av, .ref ao, .ref ah, .ref ar, .ref ap, .int (iZ ((((t).length : Nat) : Int))), .int (bZ (ng = true)), .int (iZ (((me : Nat) : Int))), .long (lN (mf)), .int (iZ (((mb : Nat) : Int))), .int (iZ (((mm : Nat) : Int))), .long (lN (ms)), .int (iZ (mt)), .long (lN (mq)), .int (iZ (mz))])), (au, .inl (kU, 156, .inl u))] [(kU, .int)] t9) A
set_option maxHeartbeats 4000000 in
set_option maxRecDepth 100000 in
theorem lp_Mo_setUnit_116 {p : Program} {l : Launch} {e : Env} {s : State} {m : MethodId} {args : Array Value} {below : List Frame} {meth : Method} {c : Code} {A : Nat → Prop} {D : va_G} {Z : Nat → Nat} (h0 : Nat) (th : Int) (au : Nat) (al : Nat) (av : Nat) (ao : Nat) (ah : Nat) (ar : Nat) (ap : Nat) (t : List Nat) (ng : Bool) (me : Nat) (mf : Nat) (mb : Nat) (mm : Nat) (ms : Nat) (mt : Int) (mq : Nat) (mz : Int) (kU : ClassId) (fu : Nat → Int32) (z : Int) (hz : -1080 ≤ z ∧ z ≤ 971) (C0 : cxA p s m args meth c b_Mo_setUnit 6 R_Mo none) (hA : ∀ q : Nat, s.heap.size ≤ q → A q) (hE : Ev Z A s s.heap) (i : Nat) (u : Nat) (hex : ∀ (f3 : Nat → Int32) (H : Heap) (locs : List Loc) (ls : Array Slot), (∀ q, q < 156 → f3 q = iZ ((dg (u / 2) q : Nat) : Int)) → va_K D classes [(kU, .int)] s → va_P D classes [(h0, .inr (5, [.int (iZ (th)), .ref au, .ref al, .ref av, .ref ao, .ref ah, .ref ar, .ref ap, .int (iZ ((((t).length : Nat) : Int))), .int (bZ (ng = true)), .int (iZ (((me : Nat) : Int))), .long (lN (mf)), .int (iZ (((mb : Nat) : Int))), .int (iZ (((mm : Nat) : Int))), .long (lN (ms)), .int (iZ (mt)), .long (lN (mq)), .int (iZ (mz))])), (au, .inl (kU, 156, .inl f3))] H → va_D A [(h0, .inr (5, [.int (iZ (th)), .ref au, .ref al, .ref av, .ref ao, .ref ah, .ref ar, .ref ap, .int (iZ ((((t).length : Nat) : Int))), .int (bZ (ng = true)), .int (iZ (((me : Nat) : Int))), .long (lN (mf)), .int (iZ (((mb : Nat) : Int))), .int (iZ (((mm : Nat) : Int))), .long (lN (ms)), .int (iZ (mt)), .long (lN (mq)), .int (iZ (mz))])), (au, .inl (kU, 156, .inl f3))] → va_S A s.heap H locs → lv_has ls 6 [(0, .ref h0), (1, .int (iZ (z))), (2, .int (iZ (z + ((i : Nat) : Int))))] → W p l e ({ frames := 0, cells := 0, slots := 0, locals := 0 } : Room) s m args below meth c H locs 0 0 (MQ below (Qc_Mo_setUnit D h0 th au al av ao ah ar ap t ng me mf mb mm ms mt mq mz kU fu z A) args s 0 0 A) (F0 m 157 ls [])) : ∀ (N : Nat) (j : Nat) (rs : Nat) (f2 : Nat → Int32) (H : Heap) (locs : List Loc) (ls : Array Slot), 156 - j < N → (j ≤ 156) → (rs = u / 1000000000 ^ (156 - j) % 2) → (∀ q, 156 - j ≤ q → q < 156 → f2 q = iZ ((dg (u / 2) q : Nat) : Int)) → (∀ q, q < 156 - j → f2 q = iZ ((dg u q : Nat) : Int)) → va_K D classes [(kU, .int)] s → va_P D classes [(h0, .inr (5, [.int (iZ (th)), .ref au, .ref al, .ref av, .ref ao, .ref ah, .ref ar, .ref ap, .int (iZ ((((t).length : Nat) : Int))), .int (bZ (ng = true)), .int (iZ (((me : Nat) : Int))), .long (lN (mf)), .int (iZ (((mb : Nat) : Int))), .int (iZ (((mm : Nat) : Int))), .long (lN (ms)), .int (iZ (mt)), .long (lN (mq)), .int (iZ (mz))])), (au, .inl (kU, 156, .inl f2))] H → va_D A [(h0, .inr (5, [.int (iZ (th)), .ref au, .ref al, .ref av, .ref ao, .ref ah, .ref ar, .ref ap, .int (iZ ((((t).length : Nat) : Int))), .int (bZ (ng = true)), .int (iZ (((me : Nat) : Int))), .long (lN (mf)), .int (iZ (((mb : Nat) : Int))), .int (iZ (((mm : Nat) : Int))), .long (lN (ms)), .int (iZ (mt)), .long (lN (mq)), .int (iZ (mz))])), (au, .inl (kU, 156, .inl f2))] → va_S A s.heap H locs → lv_has ls 6 [(0, .ref h0), (1, .int (iZ (z))), (2, .int (iZ (z + ((i : Nat) : Int)))), (3, .int (iZ (((rs : Nat) : Int)))), (4, .int (iZ (155 - ((j : Nat) : Int))))] → W p l e ({ frames := 0, cells := 0, slots := 0, locals := 0 } : Room) s m args below meth c H locs 0 0 (MQ below (Qc_Mo_setUnit D h0 th au al av ao ah ar ap t ng me mf mb mm ms mt mq mz kU fu z A) args s 0 0 A) (F0 m 116 ls []) := by
  obtain ⟨hx, hb, hml, hown, hts, hr, hlocks⟩ := id C0
  intro N
  induction N with
  | zero => intro j rs f2 H locs ls hN; exact absurd hN (Nat.not_lt_zero _)
  | succ N ih =>
    intro j rs f2 H locs ls hN hj hrs hf1 hf2 hK hP hD hS hl
    refine lv_iload hx hb d_Mo_setUnit_116 (lv_at hl 4 rfl) ?_
    refine zv_if_lt (tgt := 157) hx hb d_Mo_setUnit_118 (by decide) (by omega) (fun c118 => ?_) (fun c118 => ?_)
    · have ej : j = 156 := by omega
      exact hex f2 _ _ _ (fun q h => hf1 q (by omega) h) (hK.sub [0] rfl) (hP.sub [0, 1] rfl) (hD.sub [0, 1] (by decide) rfl) hS (lv_sub hl [0, 1, 2] rfl)
    · refine lv_aload_n hx hb d_Mo_setUnit_121 rfl (lv_at hl 0 rfl) ?_
      refine va_get (D := D) (ci := 5) (v := .ref au) (C := R_Mo) (T := F_Mo) (N := 18) hx hb hts i_Mo hown hK hP 0 rfl rfl 1 (by decide) (hts _ kw_297_) (fun _ h9 => h9) rfl d_Mo_setUnit_122 ?_
      refine lv_iload hx hb d_Mo_setUnit_125 (lv_at hl 4 rfl) ?_
      refine zv_iald hx hb hK hP 1 0 rfl rfl (155 - j) (by omega) (by omega) (by decide) d_Mo_setUnit_127 ?_
      refine zv_top (y := iZ (((dg u (155 - j) : Nat) : Int))) (hf2 (155 - j) (by omega)) ?_
      refine lv_iload_n hx hb d_Mo_setUnit_128 rfl (lv_at hl 3 rfl) ?_
      refine lv_ldc (v := (1000000000)) hx hb hown (hts _ kw_312_) d_Mo_setUnit_129 ?_
      refine zv_top (y := iZ (1000000000)) (by decide) ?_
      refine zv_imul hx hb d_Mo_setUnit_131 ?_
      refine zv_iadd hx hb d_Mo_setUnit_132 ?_
      refine zv_top (y := iZ (((dg u (155 - j) + rs * 1000000000 : Nat) : Int))) (congrArg iZ (by omega)) ?_
      refine zv_nmn (n := (dg u (155 - j) + rs * 1000000000)) (fun v1 h_v1 => ?_)
      refine lv_istore (lv' := [(5, .int (iZ (((v1 : Nat) : Int)))), (0, .ref h0), (1, .int (iZ (z))), (2, .int (iZ (z + ((i : Nat) : Int)))), (3, .int (iZ (((rs : Nat) : Int)))), (4, .int (iZ (155 - ((j : Nat) : Int))))]) hx hb d_Mo_setUnit_133 hl (by decide) rfl (fun ls hl => ?_)
      have hvd := dg_lt u (155 - j)
      obtain ⟨st1, st2⟩ := hlv_step u (155 - j)
      rw [show 155 - j + 1 = 156 - j by omega, ← hrs, ← h_v1] at st1 st2
      refine lv_iload hx hb d_Mo_setUnit_135 (lv_at hl 0 rfl) ?_
      refine lv_iconst (v := iZ (1)) hx hb d_Mo_setUnit_137 rfl ?_
      refine zv_iand (a := v1) (b := 1) hx hb d_Mo_setUnit_138 (rfl) (rfl) ?_
      refine zv_top (y := iZ (((v1 % 2 : Nat) : Int))) (congrArg iZ (congrArg Int.ofNat (Nat.and_one_is_mod v1))) ?_
      refine lv_istore_n (lv' := [(3, .int (iZ (((v1 % 2 : Nat) : Int)))), (5, .int (iZ (((v1 : Nat) : Int)))), (0, .ref h0), (1, .int (iZ (z))), (2, .int (iZ (z + ((i : Nat) : Int)))), (4, .int (iZ (155 - ((j : Nat) : Int))))]) hx hb d_Mo_setUnit_139 rfl hl (by decide) rfl (fun ls hl => ?_)
      refine lv_aload_n hx hb d_Mo_setUnit_140 rfl (lv_at hl 2 rfl) ?_
      refine va_get (D := D) (ci := 5) (v := .ref au) (C := R_Mo) (T := F_Mo) (N := 18) hx hb hts i_Mo hown hK hP 0 rfl rfl 1 (by decide) (hts _ kw_297_) (fun _ h9 => h9) rfl d_Mo_setUnit_141 ?_
      refine lv_iload hx hb d_Mo_setUnit_144 (lv_at hl 5 rfl) ?_
      refine lv_iload hx hb d_Mo_setUnit_146 (lv_at hl 1 rfl) ?_
      refine lv_iconst (v := iZ (2)) hx hb d_Mo_setUnit_148 rfl ?_
      refine zv_idiv hx hb d_Mo_setUnit_149 (by omega) (by omega) ?_
      refine zv_top (y := iZ (((dg (u / 2) (155 - j) : Nat) : Int))) (congrArg iZ (by omega)) ?_
      refine zv_iast hx hb hK hP hD hS 1 0 rfl rfl (155 - j) (by omega) (by omega) (by decide) d_Mo_setUnit_150 (fun H locs hP hD hS => ?_)
      have hP : va_P D classes [(h0, .inr (5, [.int (iZ (th)), .ref au, .ref al, .ref av, .ref ao, .ref ah, .ref ar, .ref ap, .int (iZ ((((t).length : Nat) : Int))), .int (bZ (ng = true)), .int (iZ (((me : Nat) : Int))), .long (lN (mf)), .int (iZ (((mb : Nat) : Int))), .int (iZ (((mm : Nat) : Int))), .long (lN (ms)), .int (iZ (mt)), .long (lN (mq)), .int (iZ (mz))])), (au, .inl (kU, 156, .inl (upd f2 (155 - j) (iZ (((dg (u / 2) (155 - j) : Nat) : Int))))))] H := hP
      have hD : va_D A [(h0, .inr (5, [.int (iZ (th)), .ref au, .ref al, .ref av, .ref ao, .ref ah, .ref ar, .ref ap, .int (iZ ((((t).length : Nat) : Int))), .int (bZ (ng = true)), .int (iZ (((me : Nat) : Int))), .long (lN (mf)), .int (iZ (((mb : Nat) : Int))), .int (iZ (((mm : Nat) : Int))), .long (lN (ms)), .int (iZ (mt)), .long (lN (mq)), .int (iZ (mz))])), (au, .inl (kU, 156, .inl (upd f2 (155 - j) (iZ (((dg (u / 2) (155 - j) : Nat) : Int))))))] := hD
      refine lv_iinc (v := iZ (155 - ((j + 1 : Nat) : Int))) (lv' := [(4, .int (iZ (155 - ((j + 1 : Nat) : Int)))), (3, .int (iZ (((v1 % 2 : Nat) : Int)))), (5, .int (iZ (((v1 : Nat) : Int)))), (0, .ref h0), (1, .int (iZ (z))), (2, .int (iZ (z + ((i : Nat) : Int))))]) hx hb d_Mo_setUnit_151 hl (k := 5) rfl ((iZ_add _ _).trans (congrArg iZ (by omega))) (by decide) rfl (fun ls hl => ?_)
      refine lv_goto (tgt := 116) hx hb d_Mo_setUnit_154 (by decide) ?_
      exact ih (j + 1) (v1 % 2) (upd f2 (155 - j) (iZ (((dg (u / 2) (155 - j) : Nat) : Int)))) _ _ _ (by omega) (by omega) (by rw [st2, show 156 - (j + 1) = 155 - j by omega]) (upd_dn hf1 (by omega)) (fun q h => by rw [pk_un (by omega)]; exact hf2 q (by omega)) (hK.sub [0] rfl) (hP.sub [0, 1] rfl) (hD.sub [0, 1] (by decide) rfl) hS (lv_sub hl [3, 4, 5, 1, 0] rfl)
set_option maxHeartbeats 4000000 in
set_option maxRecDepth 100000 in
theorem lp_Mo_setUnit_105 {p : Program} {l : Launch} {e : Env} {s : State} {m : MethodId} {args : Array Value} {below : List Frame} {meth : Method} {c : Code} {A : Nat → Prop} {D : va_G} {Z : Nat → Nat} (h0 : Nat) (th : Int) (au : Nat) (al : Nat) (av : Nat) (ao : Nat) (ah : Nat) (ar : Nat) (ap : Nat) (t : List Nat) (ng : Bool) (me : Nat) (mf : Nat) (mb : Nat) (mm : Nat) (ms : Nat) (mt : Int) (mq : Nat) (mz : Int) (kU : ClassId) (fu : Nat → Int32) (z : Int) (hz : -1080 ≤ z ∧ z ≤ 971) (C0 : cxA p s m args meth c b_Mo_setUnit 6 R_Mo none) (hA : ∀ q : Nat, s.heap.size ≤ q → A q) (hE : Ev Z A s s.heap) : ∀ (N : Nat) (i : Nat) (f2 : Nat → Int32) (H : Heap) (locs : List Loc) (ls : Array Slot), (-z).toNat - i < N → (i ≤ (-z).toNat) → (LimI f2 (bigO * 2 ^ z.toNat / 2 ^ i)) → va_K D classes [(kU, .int)] s → va_P D classes [(h0, .inr (5, [.int (iZ (th)), .ref au, .ref al, .ref av, .ref ao, .ref ah, .ref ar, .ref ap, .int (iZ ((((t).length : Nat) : Int))), .int (bZ (ng = true)), .int (iZ (((me : Nat) : Int))), .long (lN (mf)), .int (iZ (((mb : Nat) : Int))), .int (iZ (((mm : Nat) : Int))), .long (lN (ms)), .int (iZ (mt)), .long (lN (mq)), .int (iZ (mz))])), (au, .inl (kU, 156, .inl f2))] H → va_D A [(h0, .inr (5, [.int (iZ (th)), .ref au, .ref al, .ref av, .ref ao, .ref ah, .ref ar, .ref ap, .int (iZ ((((t).length : Nat) : Int))), .int (bZ (ng = true)), .int (iZ (((me : Nat) : Int))), .long (lN (mf)), .int (iZ (((mb : Nat) : Int))), .int (iZ (((mm : Nat) : Int))), .long (lN (ms)), .int (iZ (mt)), .long (lN (mq)), .int (iZ (mz))])), (au, .inl (kU, 156, .inl f2))] → va_S A s.heap H locs → lv_has ls 6 [(0, .ref h0), (1, .int (iZ (z))), (2, .int (iZ (z + ((i : Nat) : Int))))] → W p l e ({ frames := 0, cells := 0, slots := 0, locals := 0 } : Room) s m args below meth c H locs 0 0 (MQ below (Qc_Mo_setUnit D h0 th au al av ao ah ar ap t ng me mf mb mm ms mt mq mz kU fu z A) args s 0 0 A) (F0 m 105 ls []) := by
  obtain ⟨hx, hb, hml, hown, hts, hr, hlocks⟩ := id C0
  intro N
  induction N with
  | zero => intro i f2 H locs ls hN; exact absurd hN (Nat.not_lt_zero _)
  | succ N ih =>
    intro i f2 H locs ls hN hi hf hK hP hD hS hl
    refine lv_iload_n hx hb d_Mo_setUnit_105 rfl (lv_at hl 2 rfl) ?_
    refine zv_if_ge (tgt := 163) hx hb d_Mo_setUnit_106 (by decide) (by omega) (fun c106 => ?_) (fun c106 => ?_)
    · have hi2 : i = (-z).toNat := by omega
      exact ew_v f2 hx hb hr hlocks d_Mo_setUnit_163 (show LimI f2 (uN z) from by unfold uN; rw [← hi2]; exact hf) (hP.sub (ws' := [(h0, .inr (5, [.int (iZ (th)), .ref au, .ref al, .ref av, .ref ao, .ref ah, .ref ar, .ref ap, .int (iZ ((((t).length : Nat) : Int))), .int (bZ (ng = true)), .int (iZ (((me : Nat) : Int))), .long (lN (mf)), .int (iZ (((mb : Nat) : Int))), .int (iZ (((mm : Nat) : Int))), .long (lN (ms)), .int (iZ (mt)), .long (lN (mq)), .int (iZ (mz))])), (au, .inl (kU, 156, .inl f2))]) [0, 1] rfl) (hD.sub (ws' := [(h0, .inr (5, [.int (iZ (th)), .ref au, .ref al, .ref av, .ref ao, .ref ah, .ref ar, .ref ap, .int (iZ ((((t).length : Nat) : Int))), .int (bZ (ng = true)), .int (iZ (((me : Nat) : Int))), .long (lN (mf)), .int (iZ (((mb : Nat) : Int))), .int (iZ (((mm : Nat) : Int))), .long (lN (ms)), .int (iZ (mt)), .long (lN (mq)), .int (iZ (mz))])), (au, .inl (kU, 156, .inl f2))]) [0, 1] (by decide) rfl) (hK.sub (tys' := [(kU, .int)]) [0] rfl) hS (Nat.le_of_ble_eq_true rfl) (Nat.le_of_ble_eq_true rfl)
    · refine lv_iconst (v := iZ (0)) hx hb d_Mo_setUnit_109 rfl ?_
      refine lv_istore_n (lv' := [(3, .int (iZ (0))), (0, .ref h0), (1, .int (iZ (z))), (2, .int (iZ (z + ((i : Nat) : Int))))]) hx hb d_Mo_setUnit_110 rfl hl (by decide) rfl (fun ls hl => ?_)
      refine lv_sipush (v := iZ (155)) hx hb d_Mo_setUnit_111 (by decide) ?_
      refine zv_top (y := iZ (155 - ((0 : Nat) : Int))) (rfl) ?_
      refine lv_istore (lv' := [(4, .int (iZ (155 - ((0 : Nat) : Int)))), (3, .int (iZ (0))), (0, .ref h0), (1, .int (iZ (z))), (2, .int (iZ (z + ((i : Nat) : Int))))]) hx hb d_Mo_setUnit_114 hl (by decide) rfl (fun ls hl => ?_)
      refine lp_Mo_setUnit_116 h0 th au al av ao ah ar ap t ng me mf mb mm ms mt mq mz kU fu z hz C0 hA hE i (bigO * 2 ^ z.toNat / 2 ^ i) (fun f3 H locs ls hf3 hK hP hD hS hl => ?_) (156 - 0 + 1) 0 0 f2 _ _ _ (Nat.lt_succ_self _) (by omega) (by rw [Nat.sub_zero, Nat.div_eq_of_lt (lim_hlv hz.2)]) (fun q h1 h2 => absurd h1 (by omega)) (fun q h => hf.1 q (by omega)) (hK.sub [0] rfl) (hP.sub [0, 1] rfl) (hD.sub [0, 1] (by decide) rfl) hS (lv_sub hl [2, 3, 4, 1, 0] rfl)
      have hf3 : ∀ q, q < 156 → f3 q = iZ ((dg ((bigO * 2 ^ z.toNat / 2 ^ i) / 2) q : Nat) : Int) := hf3
      refine lv_iinc (v := iZ (z + ((i + 1 : Nat) : Int))) (lv' := [(2, .int (iZ (z + ((i + 1 : Nat) : Int)))), (0, .ref h0), (1, .int (iZ (z)))]) hx hb d_Mo_setUnit_157 hl (k := 2) rfl ((iZ_add _ _).trans (congrArg iZ (by omega))) (by decide) rfl (fun ls hl => ?_)
      refine lv_goto (tgt := 105) hx hb d_Mo_setUnit_160 (by decide) ?_
      exact ih (i + 1) f3 _ _ _ (by omega) (by omega) (by rw [Nat.pow_succ, ← Nat.div_div_eq_div_mul]; exact ⟨hf3, by rw [Nat.div_div_eq_div_mul, ← Nat.pow_succ]; exact lim_hlv hz.2⟩) (hK.sub [0] rfl) (hP.sub [0, 1] rfl) (hD.sub [0, 1] (by decide) rfl) hS (lv_sub hl [1, 2, 0] rfl)
set_option maxHeartbeats 4000000 in
set_option maxRecDepth 100000 in
theorem lp_Mo_setUnit_43 {p : Program} {l : Launch} {e : Env} {s : State} {m : MethodId} {args : Array Value} {below : List Frame} {meth : Method} {c : Code} {A : Nat → Prop} {D : va_G} {Z : Nat → Nat} (h0 : Nat) (th : Int) (au : Nat) (al : Nat) (av : Nat) (ao : Nat) (ah : Nat) (ar : Nat) (ap : Nat) (t : List Nat) (ng : Bool) (me : Nat) (mf : Nat) (mb : Nat) (mm : Nat) (ms : Nat) (mt : Int) (mq : Nat) (mz : Int) (kU : ClassId) (fu : Nat → Int32) (z : Int) (hz : -1080 ≤ z ∧ z ≤ 971) (C0 : cxA p s m args meth c b_Mo_setUnit 6 R_Mo none) (hA : ∀ q : Nat, s.heap.size ≤ q → A q) (hE : Ev Z A s s.heap) (i : Nat) (hex : ∀ (f3 : Nat → Int32) (H : Heap) (locs : List Loc) (ls : Array Slot), (∀ j, j < 156 → f3 j = iZ ((dg (2 * (bigO * 2 ^ i)) j : Nat) : Int)) → va_K D classes [(kU, .int)] s → va_P D classes [(h0, .inr (5, [.int (iZ (th)), .ref au, .ref al, .ref av, .ref ao, .ref ah, .ref ar, .ref ap, .int (iZ ((((t).length : Nat) : Int))), .int (bZ (ng = true)), .int (iZ (((me : Nat) : Int))), .long (lN (mf)), .int (iZ (((mb : Nat) : Int))), .int (iZ (((mm : Nat) : Int))), .long (lN (ms)), .int (iZ (mt)), .long (lN (mq)), .int (iZ (mz))])), (au, .inl (kU, 156, .inl f3))] H → va_D A [(h0, .inr (5, [.int (iZ (th)), .ref au, .ref al, .ref av, .ref ao, .ref ah, .ref ar, .ref ap, .int (iZ ((((t).length : Nat) : Int))), .int (bZ (ng = true)), .int (iZ (((me : Nat) : Int))), .long (lN (mf)), .int (iZ (((mb : Nat) : Int))), .int (iZ (((mm : Nat) : Int))), .long (lN (ms)), .int (iZ (mt)), .long (lN (mq)), .int (iZ (mz))])), (au, .inl (kU, 156, .inl f3))] → va_S A s.heap H locs → lv_has ls 6 [(0, .ref h0), (1, .int (iZ (z))), (2, .int (iZ (z - ((i : Nat) : Int))))] → W p l e ({ frames := 0, cells := 0, slots := 0, locals := 0 } : Room) s m args below meth c H locs 0 0 (MQ below (Qc_Mo_setUnit D h0 th au al av ao ah ar ap t ng me mf mb mm ms mt mq mz kU fu z A) args s 0 0 A) (F0 m 97 ls [])) : ∀ (N : Nat) (k : Nat) (ca : Nat) (f2 : Nat → Int32) (H : Heap) (locs : List Loc) (ls : Array Slot), 156 - k < N → (k ≤ 156) → (ca = 2 * ((bigO * 2 ^ i) % 1000000000 ^ k) / 1000000000 ^ k) → (∀ j, j < k → f2 j = iZ ((dg (2 * (bigO * 2 ^ i)) j : Nat) : Int)) → (∀ j, k ≤ j → j < 156 → f2 j = iZ ((dg (bigO * 2 ^ i) j : Nat) : Int)) → va_K D classes [(kU, .int)] s → va_P D classes [(h0, .inr (5, [.int (iZ (th)), .ref au, .ref al, .ref av, .ref ao, .ref ah, .ref ar, .ref ap, .int (iZ ((((t).length : Nat) : Int))), .int (bZ (ng = true)), .int (iZ (((me : Nat) : Int))), .long (lN (mf)), .int (iZ (((mb : Nat) : Int))), .int (iZ (((mm : Nat) : Int))), .long (lN (ms)), .int (iZ (mt)), .long (lN (mq)), .int (iZ (mz))])), (au, .inl (kU, 156, .inl f2))] H → va_D A [(h0, .inr (5, [.int (iZ (th)), .ref au, .ref al, .ref av, .ref ao, .ref ah, .ref ar, .ref ap, .int (iZ ((((t).length : Nat) : Int))), .int (bZ (ng = true)), .int (iZ (((me : Nat) : Int))), .long (lN (mf)), .int (iZ (((mb : Nat) : Int))), .int (iZ (((mm : Nat) : Int))), .long (lN (ms)), .int (iZ (mt)), .long (lN (mq)), .int (iZ (mz))])), (au, .inl (kU, 156, .inl f2))] → va_S A s.heap H locs → lv_has ls 6 [(0, .ref h0), (1, .int (iZ (z))), (2, .int (iZ (z - ((i : Nat) : Int)))), (3, .int (iZ (((ca : Nat) : Int)))), (4, .int (iZ (((k : Nat) : Int))))] → W p l e ({ frames := 0, cells := 0, slots := 0, locals := 0 } : Room) s m args below meth c H locs 0 0 (MQ below (Qc_Mo_setUnit D h0 th au al av ao ah ar ap t ng me mf mb mm ms mt mq mz kU fu z A) args s 0 0 A) (F0 m 43 ls []) := by
  obtain ⟨hx, hb, hml, hown, hts, hr, hlocks⟩ := id C0
  intro N
  induction N with
  | zero => intro k ca f2 H locs ls hN; exact absurd hN (Nat.not_lt_zero _)
  | succ N ih =>
    intro k ca f2 H locs ls hN hk hca hf1 hf2 hK hP hD hS hl
    refine lv_iload hx hb d_Mo_setUnit_43 (lv_at hl 4 rfl) ?_
    refine lv_sipush (v := iZ (156)) hx hb d_Mo_setUnit_45 (by decide) ?_
    refine zv_icmp_ge (tgt := 97) hx hb d_Mo_setUnit_48 (by decide) (by omega) (by omega) (fun c48 => ?_) (fun c48 => ?_)
    · have ek : k = 156 := by omega
      exact hex f2 _ _ _ (fun j h => hf1 j (by omega)) (hK.sub [0] rfl) (hP.sub [0, 1] rfl) (hD.sub [0, 1] (by decide) rfl) hS (lv_sub hl [0, 1, 2] rfl)
    · refine lv_iconst (v := iZ (2)) hx hb d_Mo_setUnit_51 rfl ?_
      refine lv_aload_n hx hb d_Mo_setUnit_52 rfl (lv_at hl 0 rfl) ?_
      refine va_get (D := D) (ci := 5) (v := .ref au) (C := R_Mo) (T := F_Mo) (N := 18) hx hb hts i_Mo hown hK hP 0 rfl rfl 1 (by decide) (hts _ kw_297_) (fun _ h9 => h9) rfl d_Mo_setUnit_53 ?_
      refine lv_iload hx hb d_Mo_setUnit_56 (lv_at hl 4 rfl) ?_
      refine zv_iald hx hb hK hP 1 0 rfl rfl k (by omega) (by omega) (by decide) d_Mo_setUnit_58 ?_
      refine zv_top (y := iZ (((dg (bigO * 2 ^ i) k : Nat) : Int))) (hf2 k (Nat.le_refl k) (by omega)) ?_
      refine zv_imul hx hb d_Mo_setUnit_59 ?_
      refine zv_top (y := iZ (((2 * dg (bigO * 2 ^ i) k : Nat) : Int))) (congrArg iZ (by omega)) ?_
      refine lv_iload_n hx hb d_Mo_setUnit_60 rfl (lv_at hl 3 rfl) ?_
      refine zv_iadd hx hb d_Mo_setUnit_61 ?_
      refine zv_top (y := iZ (((2 * dg (bigO * 2 ^ i) k + ca : Nat) : Int))) (congrArg iZ (by omega)) ?_
      refine zv_nmn (n := (2 * dg (bigO * 2 ^ i) k + ca)) (fun v1 h_v1 => ?_)
      refine lv_istore (lv' := [(5, .int (iZ (((v1 : Nat) : Int)))), (0, .ref h0), (1, .int (iZ (z))), (2, .int (iZ (z - ((i : Nat) : Int)))), (3, .int (iZ (((ca : Nat) : Int)))), (4, .int (iZ (((k : Nat) : Int))))]) hx hb d_Mo_setUnit_62 hl (by decide) rfl (fun ls hl => ?_)
      have hvc := dbl_c (bigO * 2 ^ i) k
      have hvd := dg_lt (bigO * 2 ^ i) k
      obtain ⟨st1, st2⟩ := dbl_step (bigO * 2 ^ i) k
      rw [← hca, ← h_v1] at st1 st2
      refine lv_iload hx hb d_Mo_setUnit_64 (lv_at hl 0 rfl) ?_
      refine lv_ldc (v := (1000000000)) hx hb hown (hts _ kw_312_) d_Mo_setUnit_66 ?_
      refine zv_top (y := iZ (1000000000)) (by decide) ?_
      refine zv_icmp_lt (tgt := 75) hx hb d_Mo_setUnit_68 (by decide) (by omega) (by omega) (fun c68 => ?_) (fun c68 => ?_)
      · refine lv_iconst (v := iZ (0)) hx hb d_Mo_setUnit_75 rfl ?_
        refine zv_top (y := iZ (((v1 / 1000000000 : Nat) : Int))) (congrArg iZ (by omega)) ?_
        refine lv_istore_n (lv' := [(3, .int (iZ (((v1 / 1000000000 : Nat) : Int)))), (5, .int (iZ (((v1 : Nat) : Int)))), (0, .ref h0), (1, .int (iZ (z))), (2, .int (iZ (z - ((i : Nat) : Int)))), (4, .int (iZ (((k : Nat) : Int))))]) hx hb d_Mo_setUnit_76 rfl hl (by decide) rfl (fun ls hl => ?_)
        refine lv_aload_n hx hb d_Mo_setUnit_77 rfl (lv_at hl 2 rfl) ?_
        refine va_get (D := D) (ci := 5) (v := .ref au) (C := R_Mo) (T := F_Mo) (N := 18) hx hb hts i_Mo hown hK hP 0 rfl rfl 1 (by decide) (hts _ kw_297_) (fun _ h9 => h9) rfl d_Mo_setUnit_78 ?_
        refine lv_iload hx hb d_Mo_setUnit_81 (lv_at hl 5 rfl) ?_
        refine lv_iload hx hb d_Mo_setUnit_83 (lv_at hl 1 rfl) ?_
        refine lv_iload_n hx hb d_Mo_setUnit_85 rfl (lv_at hl 0 rfl) ?_
        refine lv_ldc (v := (1000000000)) hx hb hown (hts _ kw_312_) d_Mo_setUnit_86 ?_
        refine zv_top (y := iZ (1000000000)) (by decide) ?_
        refine zv_imul hx hb d_Mo_setUnit_88 ?_
        refine zv_top (y := iZ ((((v1 / 1000000000) * 1000000000 : Nat) : Int))) (congrArg iZ (by simp)) ?_
        refine zv_isub hx hb d_Mo_setUnit_89 ?_
        refine zv_top (y := iZ (((v1 % 1000000000 : Nat) : Int))) (congrArg iZ (by omega)) ?_
        refine zv_iast hx hb hK hP hD hS 1 0 rfl rfl k (by omega) (by omega) (by decide) d_Mo_setUnit_90 (fun H locs hP hD hS => ?_)
        have hP : va_P D classes [(h0, .inr (5, [.int (iZ (th)), .ref au, .ref al, .ref av, .ref ao, .ref ah, .ref ar, .ref ap, .int (iZ ((((t).length : Nat) : Int))), .int (bZ (ng = true)), .int (iZ (((me : Nat) : Int))), .long (lN (mf)), .int (iZ (((mb : Nat) : Int))), .int (iZ (((mm : Nat) : Int))), .long (lN (ms)), .int (iZ (mt)), .long (lN (mq)), .int (iZ (mz))])), (au, .inl (kU, 156, .inl (upd f2 k (iZ (((v1 % 1000000000 : Nat) : Int))))))] H := hP
        have hD : va_D A [(h0, .inr (5, [.int (iZ (th)), .ref au, .ref al, .ref av, .ref ao, .ref ah, .ref ar, .ref ap, .int (iZ ((((t).length : Nat) : Int))), .int (bZ (ng = true)), .int (iZ (((me : Nat) : Int))), .long (lN (mf)), .int (iZ (((mb : Nat) : Int))), .int (iZ (((mm : Nat) : Int))), .long (lN (ms)), .int (iZ (mt)), .long (lN (mq)), .int (iZ (mz))])), (au, .inl (kU, 156, .inl (upd f2 k (iZ (((v1 % 1000000000 : Nat) : Int))))))] := hD
        refine lv_iinc (v := iZ (((k + 1 : Nat) : Int))) (lv' := [(4, .int (iZ (((k + 1 : Nat) : Int)))), (3, .int (iZ (((v1 / 1000000000 : Nat) : Int)))), (5, .int (iZ (((v1 : Nat) : Int)))), (0, .ref h0), (1, .int (iZ (z))), (2, .int (iZ (z - ((i : Nat) : Int))))]) hx hb d_Mo_setUnit_91 hl (k := 5) rfl ((iZ_add _ _).trans (congrArg iZ (by omega))) (by decide) rfl (fun ls hl => ?_)
        refine lv_goto (tgt := 43) hx hb d_Mo_setUnit_94 (by decide) ?_
        exact ih (k + 1) (v1 / 1000000000) (upd f2 k (iZ (((v1 % 1000000000 : Nat) : Int)))) _ _ _ (by omega) (by omega) (st1) (upd_up (F := fun j => iZ ((dg (2 * (bigO * 2 ^ i)) j : Nat) : Int)) hf1 (by rw [st2])) (upd_keep (F := fun j => iZ ((dg (bigO * 2 ^ i) j : Nat) : Int)) (P := fun j => j < 156) hf2) (hK.sub [0] rfl) (hP.sub [0, 1] rfl) (hD.sub [0, 1] (by decide) rfl) hS (lv_sub hl [3, 4, 5, 1, 0] rfl)
      · refine lv_iconst (v := iZ (1)) hx hb d_Mo_setUnit_71 rfl ?_
        refine zv_top (y := iZ (((v1 / 1000000000 : Nat) : Int))) (congrArg iZ (by omega)) ?_
        refine lv_goto (tgt := 76) hx hb d_Mo_setUnit_72 (by decide) ?_
        refine lv_istore_n (lv' := [(3, .int (iZ (((v1 / 1000000000 : Nat) : Int)))), (5, .int (iZ (((v1 : Nat) : Int)))), (0, .ref h0), (1, .int (iZ (z))), (2, .int (iZ (z - ((i : Nat) : Int)))), (4, .int (iZ (((k : Nat) : Int))))]) hx hb d_Mo_setUnit_76 rfl hl (by decide) rfl (fun ls hl => ?_)
        refine lv_aload_n hx hb d_Mo_setUnit_77 rfl (lv_at hl 2 rfl) ?_
        refine va_get (D := D) (ci := 5) (v := .ref au) (C := R_Mo) (T := F_Mo) (N := 18) hx hb hts i_Mo hown hK hP 0 rfl rfl 1 (by decide) (hts _ kw_297_) (fun _ h9 => h9) rfl d_Mo_setUnit_78 ?_
        refine lv_iload hx hb d_Mo_setUnit_81 (lv_at hl 5 rfl) ?_
        refine lv_iload hx hb d_Mo_setUnit_83 (lv_at hl 1 rfl) ?_
        refine lv_iload_n hx hb d_Mo_setUnit_85 rfl (lv_at hl 0 rfl) ?_
        refine lv_ldc (v := (1000000000)) hx hb hown (hts _ kw_312_) d_Mo_setUnit_86 ?_
        refine zv_top (y := iZ (1000000000)) (by decide) ?_
        refine zv_imul hx hb d_Mo_setUnit_88 ?_
        refine zv_top (y := iZ ((((v1 / 1000000000) * 1000000000 : Nat) : Int))) (congrArg iZ (by simp)) ?_
        refine zv_isub hx hb d_Mo_setUnit_89 ?_
        refine zv_top (y := iZ (((v1 % 1000000000 : Nat) : Int))) (congrArg iZ (by omega)) ?_
        refine zv_iast hx hb hK hP hD hS 1 0 rfl rfl k (by omega) (by omega) (by decide) d_Mo_setUnit_90 (fun H locs hP hD hS => ?_)
        have hP : va_P D classes [(h0, .inr (5, [.int (iZ (th)), .ref au, .ref al, .ref av, .ref ao, .ref ah, .ref ar, .ref ap, .int (iZ ((((t).length : Nat) : Int))), .int (bZ (ng = true)), .int (iZ (((me : Nat) : Int))), .long (lN (mf)), .int (iZ (((mb : Nat) : Int))), .int (iZ (((mm : Nat) : Int))), .long (lN (ms)), .int (iZ (mt)), .long (lN (mq)), .int (iZ (mz))])), (au, .inl (kU, 156, .inl (upd f2 k (iZ (((v1 % 1000000000 : Nat) : Int))))))] H := hP
        have hD : va_D A [(h0, .inr (5, [.int (iZ (th)), .ref au, .ref al, .ref av, .ref ao, .ref ah, .ref ar, .ref ap, .int (iZ ((((t).length : Nat) : Int))), .int (bZ (ng = true)), .int (iZ (((me : Nat) : Int))), .long (lN (mf)), .int (iZ (((mb : Nat) : Int))), .int (iZ (((mm : Nat) : Int))), .long (lN (ms)), .int (iZ (mt)), .long (lN (mq)), .int (iZ (mz))])), (au, .inl (kU, 156, .inl (upd f2 k (iZ (((v1 % 1000000000 : Nat) : Int))))))] := hD
        refine lv_iinc (v := iZ (((k + 1 : Nat) : Int))) (lv' := [(4, .int (iZ (((k + 1 : Nat) : Int)))), (3, .int (iZ (((v1 / 1000000000 : Nat) : Int)))), (5, .int (iZ (((v1 : Nat) : Int)))), (0, .ref h0), (1, .int (iZ (z))), (2, .int (iZ (z - ((i : Nat) : Int))))]) hx hb d_Mo_setUnit_91 hl (k := 5) rfl ((iZ_add _ _).trans (congrArg iZ (by omega))) (by decide) rfl (fun ls hl => ?_)
        refine lv_goto (tgt := 43) hx hb d_Mo_setUnit_94 (by decide) ?_
        exact ih (k + 1) (v1 / 1000000000) (upd f2 k (iZ (((v1 % 1000000000 : Nat) : Int)))) _ _ _ (by omega) (by omega) (st1) (upd_up (F := fun j => iZ ((dg (2 * (bigO * 2 ^ i)) j : Nat) : Int)) hf1 (by rw [st2])) (upd_keep (F := fun j => iZ ((dg (bigO * 2 ^ i) j : Nat) : Int)) (P := fun j => j < 156) hf2) (hK.sub [0] rfl) (hP.sub [0, 1] rfl) (hD.sub [0, 1] (by decide) rfl) hS (lv_sub hl [3, 4, 5, 1, 0] rfl)
set_option maxHeartbeats 4000000 in
set_option maxRecDepth 100000 in
theorem lp_Mo_setUnit_34 {p : Program} {l : Launch} {e : Env} {s : State} {m : MethodId} {args : Array Value} {below : List Frame} {meth : Method} {c : Code} {A : Nat → Prop} {D : va_G} {Z : Nat → Nat} (h0 : Nat) (th : Int) (au : Nat) (al : Nat) (av : Nat) (ao : Nat) (ah : Nat) (ar : Nat) (ap : Nat) (t : List Nat) (ng : Bool) (me : Nat) (mf : Nat) (mb : Nat) (mm : Nat) (ms : Nat) (mt : Int) (mq : Nat) (mz : Int) (kU : ClassId) (fu : Nat → Int32) (z : Int) (hz : -1080 ≤ z ∧ z ≤ 971) (C0 : cxA p s m args meth c b_Mo_setUnit 6 R_Mo none) (hA : ∀ q : Nat, s.heap.size ≤ q → A q) (hE : Ev Z A s s.heap) : ∀ (N : Nat) (i : Nat) (f2 : Nat → Int32) (H : Heap) (locs : List Loc) (ls : Array Slot), z.toNat - i < N → (i ≤ z.toNat) → (LimI f2 (bigO * 2 ^ i)) → va_K D classes [(kU, .int)] s → va_P D classes [(h0, .inr (5, [.int (iZ (th)), .ref au, .ref al, .ref av, .ref ao, .ref ah, .ref ar, .ref ap, .int (iZ ((((t).length : Nat) : Int))), .int (bZ (ng = true)), .int (iZ (((me : Nat) : Int))), .long (lN (mf)), .int (iZ (((mb : Nat) : Int))), .int (iZ (((mm : Nat) : Int))), .long (lN (ms)), .int (iZ (mt)), .long (lN (mq)), .int (iZ (mz))])), (au, .inl (kU, 156, .inl f2))] H → va_D A [(h0, .inr (5, [.int (iZ (th)), .ref au, .ref al, .ref av, .ref ao, .ref ah, .ref ar, .ref ap, .int (iZ ((((t).length : Nat) : Int))), .int (bZ (ng = true)), .int (iZ (((me : Nat) : Int))), .long (lN (mf)), .int (iZ (((mb : Nat) : Int))), .int (iZ (((mm : Nat) : Int))), .long (lN (ms)), .int (iZ (mt)), .long (lN (mq)), .int (iZ (mz))])), (au, .inl (kU, 156, .inl f2))] → va_S A s.heap H locs → lv_has ls 6 [(0, .ref h0), (1, .int (iZ (z))), (2, .int (iZ (z - ((i : Nat) : Int))))] → W p l e ({ frames := 0, cells := 0, slots := 0, locals := 0 } : Room) s m args below meth c H locs 0 0 (MQ below (Qc_Mo_setUnit D h0 th au al av ao ah ar ap t ng me mf mb mm ms mt mq mz kU fu z A) args s 0 0 A) (F0 m 34 ls []) := by
  obtain ⟨hx, hb, hml, hown, hts, hr, hlocks⟩ := id C0
  intro N
  induction N with
  | zero => intro i f2 H locs ls hN; exact absurd hN (Nat.not_lt_zero _)
  | succ N ih =>
    intro i f2 H locs ls hN hi hf hK hP hD hS hl
    refine lv_iload_n hx hb d_Mo_setUnit_34 rfl (lv_at hl 2 rfl) ?_
    refine zv_if_le (tgt := 103) hx hb d_Mo_setUnit_35 (by decide) (by omega) (fun c35 => ?_) (fun c35 => ?_)
    · have hi2 : i = z.toNat := by omega
      refine lv_iload_n hx hb d_Mo_setUnit_103 rfl (lv_at hl 1 rfl) ?_
      refine zv_top (y := iZ (z + ((0 : Nat) : Int))) (congrArg iZ (by omega)) ?_
      refine lv_istore_n (lv' := [(2, .int (iZ (z + ((0 : Nat) : Int)))), (0, .ref h0), (1, .int (iZ (z)))]) hx hb d_Mo_setUnit_104 rfl hl (by decide) rfl (fun ls hl => ?_)
      exact lp_Mo_setUnit_105 h0 th au al av ao ah ar ap t ng me mf mb mm ms mt mq mz kU fu z hz C0 hA hE ((-z).toNat - 0 + 1) 0 f2 _ _ _ (Nat.lt_succ_self _) (by omega) (by rw [Nat.pow_zero, Nat.div_one, ← hi2]; exact hf) (hK.sub [0] rfl) (hP.sub [0, 1] rfl) (hD.sub [0, 1] (by decide) rfl) hS (lv_sub hl [1, 2, 0] rfl)
    · refine lv_iconst (v := iZ (0)) hx hb d_Mo_setUnit_38 rfl ?_
      refine lv_istore_n (lv' := [(3, .int (iZ (0))), (0, .ref h0), (1, .int (iZ (z))), (2, .int (iZ (z - ((i : Nat) : Int))))]) hx hb d_Mo_setUnit_39 rfl hl (by decide) rfl (fun ls hl => ?_)
      refine lv_iconst (v := iZ (0)) hx hb d_Mo_setUnit_40 rfl ?_
      refine lv_istore (lv' := [(4, .int (iZ (0))), (3, .int (iZ (0))), (0, .ref h0), (1, .int (iZ (z))), (2, .int (iZ (z - ((i : Nat) : Int))))]) hx hb d_Mo_setUnit_41 hl (by decide) rfl (fun ls hl => ?_)
      refine lp_Mo_setUnit_43 h0 th au al av ao ah ar ap t ng me mf mb mm ms mt mq mz kU fu z hz C0 hA hE i (fun f3 H locs ls hf3 hK hP hD hS hl => ?_) (156 - 0 + 1) 0 0 f2 _ _ _ (Nat.lt_succ_self _) (by omega) (by rw [Nat.pow_zero, Nat.mod_one]) (fun j h => absurd h (Nat.not_lt_zero j)) (fun j _ h => hf.1 j h) (hK.sub [0] rfl) (hP.sub [0, 1] rfl) (hD.sub [0, 1] (by decide) rfl) hS (lv_sub hl [2, 3, 4, 1, 0] rfl)
      have hf3 : ∀ j, j < 156 → f3 j = iZ ((dg (2 * (bigO * 2 ^ i)) j : Nat) : Int) := hf3
      refine lv_iinc (v := iZ (z - ((i + 1 : Nat) : Int))) (lv' := [(2, .int (iZ (z - ((i + 1 : Nat) : Int)))), (0, .ref h0), (1, .int (iZ (z)))]) hx hb d_Mo_setUnit_97 hl (k := 2) rfl ((iZ_add _ _).trans (congrArg iZ (by omega))) (by decide) rfl (fun ls hl => ?_)
      refine lv_goto (tgt := 34) hx hb d_Mo_setUnit_100 (by decide) ?_
      have hin : i + 1 ≤ z.toNat := by omega
      have e2 : 2 * (bigO * 2 ^ i) = bigO * 2 ^ (i + 1) := by rw [Nat.pow_succ, Nat.mul_comm 2, Nat.mul_assoc]
      exact ih (i + 1) f3 _ _ _ (by omega) (by omega) (by rw [← e2]; exact ⟨hf3, by rw [e2]; exact lim_dbl hz.2 hin⟩) (hK.sub [0] rfl) (hP.sub [0, 1] rfl) (hD.sub [0, 1] (by decide) rfl) hS (lv_sub hl [1, 2, 0] rfl)
set_option maxHeartbeats 4000000 in
set_option maxRecDepth 100000 in
theorem lp_Mo_setUnit_2 {p : Program} {l : Launch} {e : Env} {s : State} {m : MethodId} {args : Array Value} {below : List Frame} {meth : Method} {c : Code} {A : Nat → Prop} {D : va_G} {Z : Nat → Nat} (h0 : Nat) (th : Int) (au : Nat) (al : Nat) (av : Nat) (ao : Nat) (ah : Nat) (ar : Nat) (ap : Nat) (t : List Nat) (ng : Bool) (me : Nat) (mf : Nat) (mb : Nat) (mm : Nat) (ms : Nat) (mt : Int) (mq : Nat) (mz : Int) (kU : ClassId) (fu : Nat → Int32) (z : Int) (hz : -1080 ≤ z ∧ z ≤ 971) (C0 : cxA p s m args meth c b_Mo_setUnit 6 R_Mo none) (hA : ∀ q : Nat, s.heap.size ≤ q → A q) (hE : Ev Z A s s.heap) : ∀ (N : Nat) (k : Nat) (f2 : Nat → Int32) (H : Heap) (locs : List Loc) (ls : Array Slot), 156 - k < N → (k ≤ 156) → (∀ j, j < k → f2 j = iZ ((dg bigO j : Nat) : Int)) → va_K D classes [(kU, .int)] s → va_P D classes [(h0, .inr (5, [.int (iZ (th)), .ref au, .ref al, .ref av, .ref ao, .ref ah, .ref ar, .ref ap, .int (iZ ((((t).length : Nat) : Int))), .int (bZ (ng = true)), .int (iZ (((me : Nat) : Int))), .long (lN (mf)), .int (iZ (((mb : Nat) : Int))), .int (iZ (((mm : Nat) : Int))), .long (lN (ms)), .int (iZ (mt)), .long (lN (mq)), .int (iZ (mz))])), (au, .inl (kU, 156, .inl f2))] H → va_D A [(h0, .inr (5, [.int (iZ (th)), .ref au, .ref al, .ref av, .ref ao, .ref ah, .ref ar, .ref ap, .int (iZ ((((t).length : Nat) : Int))), .int (bZ (ng = true)), .int (iZ (((me : Nat) : Int))), .long (lN (mf)), .int (iZ (((mb : Nat) : Int))), .int (iZ (((mm : Nat) : Int))), .long (lN (ms)), .int (iZ (mt)), .long (lN (mq)), .int (iZ (mz))])), (au, .inl (kU, 156, .inl f2))] → va_S A s.heap H locs → lv_has ls 6 [(0, .ref h0), (1, .int (iZ (z))), (2, .int (iZ (((k : Nat) : Int))))] → W p l e ({ frames := 0, cells := 0, slots := 0, locals := 0 } : Room) s m args below meth c H locs 0 0 (MQ below (Qc_Mo_setUnit D h0 th au al av ao ah ar ap t ng me mf mb mm ms mt mq mz kU fu z A) args s 0 0 A) (F0 m 2 ls []) := by
  obtain ⟨hx, hb, hml, hown, hts, hr, hlocks⟩ := id C0
  intro N
  induction N with
  | zero => intro k f2 H locs ls hN; exact absurd hN (Nat.not_lt_zero _)
  | succ N ih =>
    intro k f2 H locs ls hN hk hf hK hP hD hS hl
    refine lv_iload_n hx hb d_Mo_setUnit_2 rfl (lv_at hl 2 rfl) ?_
    refine lv_sipush (v := iZ (156)) hx hb d_Mo_setUnit_3 (by decide) ?_
    refine zv_icmp_ge (tgt := 32) hx hb d_Mo_setUnit_6 (by decide) (by omega) (by omega) (fun c6 => ?_) (fun c6 => ?_)
    · obtain rfl : k = 156 := by omega
      refine lv_iload_n hx hb d_Mo_setUnit_32 rfl (lv_at hl 1 rfl) ?_
      refine zv_top (y := iZ (z - ((0 : Nat) : Int))) (congrArg iZ (by omega)) ?_
      refine lv_istore_n (lv' := [(2, .int (iZ (z - ((0 : Nat) : Int)))), (0, .ref h0), (1, .int (iZ (z)))]) hx hb d_Mo_setUnit_33 rfl hl (by decide) rfl (fun ls hl => ?_)
      exact lp_Mo_setUnit_34 h0 th au al av ao ah ar ap t ng me mf mb mm ms mt mq mz kU fu z hz C0 hA hE (z.toNat - 0 + 1) 0 f2 _ _ _ (Nat.lt_succ_self _) (by omega) (by rw [Nat.pow_zero, Nat.mul_one]; exact ⟨hf, bigO_lt⟩) (hK.sub [0] rfl) (hP.sub [0, 1] rfl) (hD.sub [0, 1] (by decide) rfl) hS (lv_sub hl [1, 2, 0] rfl)
    · refine lv_aload_n hx hb d_Mo_setUnit_9 rfl (lv_at hl 0 rfl) ?_
      refine va_get (D := D) (ci := 5) (v := .ref au) (C := R_Mo) (T := F_Mo) (N := 18) hx hb hts i_Mo hown hK hP 0 rfl rfl 1 (by decide) (hts _ kw_297_) (fun _ h9 => h9) rfl d_Mo_setUnit_10 ?_
      refine lv_iload_n hx hb d_Mo_setUnit_13 rfl (lv_at hl 2 rfl) ?_
      refine lv_iload_n hx hb d_Mo_setUnit_14 rfl (lv_at hl 2 rfl) ?_
      refine lv_bipush (v := iZ (120)) hx hb d_Mo_setUnit_15 (by decide) ?_
      refine zv_icmp_ne (tgt := 24) hx hb d_Mo_setUnit_17 (by decide) (by omega) (by omega) (fun c17 => ?_) (fun c17 => ?_)
      · refine lv_iconst (v := iZ (0)) hx hb d_Mo_setUnit_24 rfl ?_
        refine zv_top (y := iZ (((dg bigO k : Nat) : Int))) (congrArg iZ (by rw [dg_bigO, if_neg (by omega)]; rfl)) ?_
        refine zv_iast hx hb hK hP hD hS 1 0 rfl rfl k (by omega) (by omega) (by decide) d_Mo_setUnit_25 (fun H locs hP hD hS => ?_)
        have hP : va_P D classes [(h0, .inr (5, [.int (iZ (th)), .ref au, .ref al, .ref av, .ref ao, .ref ah, .ref ar, .ref ap, .int (iZ ((((t).length : Nat) : Int))), .int (bZ (ng = true)), .int (iZ (((me : Nat) : Int))), .long (lN (mf)), .int (iZ (((mb : Nat) : Int))), .int (iZ (((mm : Nat) : Int))), .long (lN (ms)), .int (iZ (mt)), .long (lN (mq)), .int (iZ (mz))])), (au, .inl (kU, 156, .inl (upd f2 k (iZ (((dg bigO k : Nat) : Int))))))] H := hP
        have hD : va_D A [(h0, .inr (5, [.int (iZ (th)), .ref au, .ref al, .ref av, .ref ao, .ref ah, .ref ar, .ref ap, .int (iZ ((((t).length : Nat) : Int))), .int (bZ (ng = true)), .int (iZ (((me : Nat) : Int))), .long (lN (mf)), .int (iZ (((mb : Nat) : Int))), .int (iZ (((mm : Nat) : Int))), .long (lN (ms)), .int (iZ (mt)), .long (lN (mq)), .int (iZ (mz))])), (au, .inl (kU, 156, .inl (upd f2 k (iZ (((dg bigO k : Nat) : Int))))))] := hD
        refine lv_iinc (v := iZ (((k + 1 : Nat) : Int))) (lv' := [(2, .int (iZ (((k + 1 : Nat) : Int)))), (0, .ref h0), (1, .int (iZ (z)))]) hx hb d_Mo_setUnit_26 hl (k := 2) rfl ((iZ_add _ _).trans (congrArg iZ (by omega))) (by decide) rfl (fun ls hl => ?_)
        refine lv_goto (tgt := 2) hx hb d_Mo_setUnit_29 (by decide) ?_
        exact ih (k + 1) (upd f2 k (iZ (((dg bigO k : Nat) : Int)))) _ _ _ (by omega) (by omega) (upd_up (F := fun j => iZ ((dg bigO j : Nat) : Int)) hf rfl) (hK.sub [0] rfl) (hP.sub [0, 1] rfl) (hD.sub [0, 1] (by decide) rfl) hS (lv_sub hl [1, 2, 0] rfl)
      · refine lv_iconst (v := iZ (1)) hx hb d_Mo_setUnit_20 rfl ?_
        refine zv_top (y := iZ (((dg bigO k : Nat) : Int))) (congrArg iZ (by rw [dg_bigO, if_pos (by omega)]; rfl)) ?_
        refine lv_goto (tgt := 25) hx hb d_Mo_setUnit_21 (by decide) ?_
        refine zv_iast hx hb hK hP hD hS 1 0 rfl rfl k (by omega) (by omega) (by decide) d_Mo_setUnit_25 (fun H locs hP hD hS => ?_)
        have hP : va_P D classes [(h0, .inr (5, [.int (iZ (th)), .ref au, .ref al, .ref av, .ref ao, .ref ah, .ref ar, .ref ap, .int (iZ ((((t).length : Nat) : Int))), .int (bZ (ng = true)), .int (iZ (((me : Nat) : Int))), .long (lN (mf)), .int (iZ (((mb : Nat) : Int))), .int (iZ (((mm : Nat) : Int))), .long (lN (ms)), .int (iZ (mt)), .long (lN (mq)), .int (iZ (mz))])), (au, .inl (kU, 156, .inl (upd f2 k (iZ (((dg bigO k : Nat) : Int))))))] H := hP
        have hD : va_D A [(h0, .inr (5, [.int (iZ (th)), .ref au, .ref al, .ref av, .ref ao, .ref ah, .ref ar, .ref ap, .int (iZ ((((t).length : Nat) : Int))), .int (bZ (ng = true)), .int (iZ (((me : Nat) : Int))), .long (lN (mf)), .int (iZ (((mb : Nat) : Int))), .int (iZ (((mm : Nat) : Int))), .long (lN (ms)), .int (iZ (mt)), .long (lN (mq)), .int (iZ (mz))])), (au, .inl (kU, 156, .inl (upd f2 k (iZ (((dg bigO k : Nat) : Int))))))] := hD
        refine lv_iinc (v := iZ (((k + 1 : Nat) : Int))) (lv' := [(2, .int (iZ (((k + 1 : Nat) : Int)))), (0, .ref h0), (1, .int (iZ (z)))]) hx hb d_Mo_setUnit_26 hl (k := 2) rfl ((iZ_add _ _).trans (congrArg iZ (by omega))) (by decide) rfl (fun ls hl => ?_)
        refine lv_goto (tgt := 2) hx hb d_Mo_setUnit_29 (by decide) ?_
        exact ih (k + 1) (upd f2 k (iZ (((dg bigO k : Nat) : Int)))) _ _ _ (by omega) (by omega) (upd_up (F := fun j => iZ ((dg bigO j : Nat) : Int)) hf rfl) (hK.sub [0] rfl) (hP.sub [0, 1] rfl) (hD.sub [0, 1] (by decide) rfl) hS (lv_sub hl [1, 2, 0] rfl)
set_option maxHeartbeats 4000000 in
set_option maxRecDepth 100000 in
theorem c_Mo_setUnit (l : Launch) (D : va_G) (Z : Nat → Nat) (hz9 : Nat) (h0 : Nat) (th : Int) (au : Nat) (al : Nat) (av : Nat) (ao : Nat) (ah : Nat) (ar : Nat) (ap : Nat) (t : List Nat) (ng : Bool) (me : Nat) (mf : Nat) (mb : Nat) (mm : Nat) (ms : Nat) (mt : Int) (mq : Nat) (mz : Int) (kU : ClassId) (fu : Nat → Int32) (z : Int) (hz : -1080 ≤ z ∧ z ≤ 971) : Met l y_Mo_setUnit (.code y_Mo_setUnit b_Mo_setUnit 6 none :: gT) ({ frames := 0, cells := 0, slots := 0, locals := 0 } : Room) (va_Pc [.ref h0, .int (iZ (z))] (cpre D Z [(h0, .inr (5, [.int (iZ (th)), .ref au, .ref al, .ref av, .ref ao, .ref ah, .ref ar, .ref ap, .int (iZ ((((t).length : Nat) : Int))), .int (bZ (ng = true)), .int (iZ (((me : Nat) : Int))), .long (lN (mf)), .int (iZ (((mb : Nat) : Int))), .int (iZ (((mm : Nat) : Int))), .long (lN (ms)), .int (iZ (mt)), .long (lN (mq)), .int (iZ (mz))])), (au, .inl (kU, 156, .inl fu))] [(kU, .int)] hz9)) (Qc_Mo_setUnit D h0 th au al av ao ah ar ap t ng me mf mb mm ms mt mq mz kU fu z (va_A [(h0, .inr (5, [.int (iZ (th)), .ref au, .ref al, .ref av, .ref ao, .ref ah, .ref ar, .ref ap, .int (iZ ((((t).length : Nat) : Int))), .int (bZ (ng = true)), .int (iZ (((me : Nat) : Int))), .long (lN (mf)), .int (iZ (((mb : Nat) : Int))), .int (iZ (((mm : Nat) : Int))), .long (lN (ms)), .int (iZ (mt)), .long (lN (mq)), .int (iZ (mz))])), (au, .inl (kU, 156, .inl fu))] hz9)) 0 0 (va_A [(h0, .inr (5, [.int (iZ (th)), .ref au, .ref al, .ref av, .ref ao, .ref ah, .ref ar, .ref ap, .int (iZ ((((t).length : Nat) : Int))), .int (bZ (ng = true)), .int (iZ (((me : Nat) : Int))), .long (lN (mf)), .int (iZ (((mb : Nat) : Int))), .int (iZ (((mm : Nat) : Int))), .long (lN (ms)), .int (iZ (mt)), .long (lN (mq)), .int (iZ (mz))])), (au, .inl (kU, 156, .inl fu))] hz9) := by
  refine met_go (Qf := Qc_Mo_setUnit D h0 th au al av ao ah ar ap t ng me mf mb mm ms mt mq mz kU fu z) (ff := fun A => A) (by decide) ?_
  intro p e s m below meth c A C0 hin hsz9 hA hE hK hP hD
  obtain ⟨hx, hb, hml, hown, hts, hr, hlocks⟩ := id C0
  have hS : va_S A s.heap s.heap [] := va_S.rf
  have hl := lv_entry [.ref h0, .int (iZ (z))] (n := 6) (Nat.le_of_ble_eq_true rfl)
  rw [lg_entry_eq]
  generalize (lg_sl [.ref h0, .int (iZ (z))] ++ List.replicate (6 - (lg_sl [.ref h0, .int (iZ (z))]).length) Slot.unset).toArray = ls at hl ⊢
  have hl : lv_has ls 6 [(0, .ref h0), (1, .int (iZ (z)))] := hl
  refine lv_iconst (v := iZ (0)) hx hb d_Mo_setUnit_0 rfl ?_
  refine lv_istore_n (lv' := [(2, .int (iZ (0))), (0, .ref h0), (1, .int (iZ (z)))]) hx hb d_Mo_setUnit_1 rfl hl (by decide) rfl (fun ls hl => ?_)
  exact lp_Mo_setUnit_2 h0 th au al av ao ah ar ap t ng me mf mb mm ms mt mq mz kU fu z hz C0 hA hE (156 - 0 + 1) 0 fu _ _ _ (Nat.lt_succ_self _) (by omega) (fun j h => absurd h (Nat.not_lt_zero j)) (hK.sub [0] rfl) (hP.sub [0, 1] rfl) (hD.sub [0, 1] (by decide) rfl) hS (lv_sub hl [1, 2, 0] rfl)
