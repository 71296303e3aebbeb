theorem kw_317_ : Cond.constantLong R_Mo 59 (1000000000) ∈ gT := gT_in 736 (by decide +kernel) (by decide +kernel)
theorem d_Mo_set_0 : decode b_Mo_set 0 = .ok (.iconst 0, 1) := by decide +kernel
theorem d_Mo_set_1 : decode b_Mo_set 1 = .ok (.istore 4, 2) := by decide +kernel
theorem d_Mo_set_3 : decode b_Mo_set 3 = .ok (.iload 4, 2) := by decide +kernel
theorem d_Mo_set_5 : decode b_Mo_set 5 = .ok (.sipush 156, 3) := by decide +kernel
theorem d_Mo_set_8 : decode b_Mo_set 8 = .ok (.if_icmp .ge 17, 3) := by decide +kernel
theorem d_Mo_set_11 : decode b_Mo_set 11 = .ok (.aload_n 0, 1) := by decide +kernel
theorem d_Mo_set_12 : decode b_Mo_set 12 = .ok (.getfield 13, 3) := by decide +kernel
theorem d_Mo_set_15 : decode b_Mo_set 15 = .ok (.iload 4, 2) := by decide +kernel
theorem d_Mo_set_17 : decode b_Mo_set 17 = .ok (.iconst 0, 1) := by decide +kernel
theorem d_Mo_set_18 : decode b_Mo_set 18 = .ok (.iastore, 1) := by decide +kernel
theorem d_Mo_set_19 : decode b_Mo_set 19 = .ok (.iinc 4 1, 3) := by decide +kernel
theorem d_Mo_set_22 : decode b_Mo_set 22 = .ok (.goto (-19), 3) := by decide +kernel
theorem d_Mo_set_25 : decode b_Mo_set 25 = .ok (.lload_n 2, 1) := by decide +kernel
theorem d_Mo_set_26 : decode b_Mo_set 26 = .ok (.lstore 4, 2) := by decide +kernel
theorem d_Mo_set_28 : decode b_Mo_set 28 = .ok (.iconst 0, 1) := by decide +kernel
theorem d_Mo_set_29 : decode b_Mo_set 29 = .ok (.istore 6, 2) := by decide +kernel
theorem d_Mo_set_31 : decode b_Mo_set 31 = .ok (.lload 4, 2) := by decide +kernel
theorem d_Mo_set_33 : decode b_Mo_set 33 = .ok (.lconst 0, 1) := by decide +kernel
theorem d_Mo_set_34 : decode b_Mo_set 34 = .ok (.lcmp, 1) := by decide +kernel
theorem d_Mo_set_35 : decode b_Mo_set 35 = .ok (.ifCond .le 96, 3) := by decide +kernel
theorem d_Mo_set_38 : decode b_Mo_set 38 = .ok (.lload 4, 2) := by decide +kernel
theorem d_Mo_set_40 : decode b_Mo_set 40 = .ok (.ldc2_w 59, 3) := by decide +kernel
theorem d_Mo_set_43 : decode b_Mo_set 43 = .ok (.lrem, 1) := by decide +kernel
theorem d_Mo_set_44 : decode b_Mo_set 44 = .ok (.lstore 7, 2) := by decide +kernel
theorem d_Mo_set_46 : decode b_Mo_set 46 = .ok (.lload 4, 2) := by decide +kernel
theorem d_Mo_set_48 : decode b_Mo_set 48 = .ok (.ldc2_w 59, 3) := by decide +kernel
theorem d_Mo_set_51 : decode b_Mo_set 51 = .ok (.ldiv, 1) := by decide +kernel
theorem d_Mo_set_52 : decode b_Mo_set 52 = .ok (.lstore 4, 2) := by decide +kernel
theorem d_Mo_set_54 : decode b_Mo_set 54 = .ok (.lconst 0, 1) := by decide +kernel
theorem d_Mo_set_55 : decode b_Mo_set 55 = .ok (.lstore 9, 2) := by decide +kernel
theorem d_Mo_set_57 : decode b_Mo_set 57 = .ok (.iload 6, 2) := by decide +kernel
theorem d_Mo_set_59 : decode b_Mo_set 59 = .ok (.istore 11, 2) := by decide +kernel
theorem d_Mo_set_61 : decode b_Mo_set 61 = .ok (.iload 11, 2) := by decide +kernel
theorem d_Mo_set_63 : decode b_Mo_set 63 = .ok (.sipush 156, 3) := by decide +kernel
theorem d_Mo_set_66 : decode b_Mo_set 66 = .ok (.if_icmp .ge 59, 3) := by decide +kernel
theorem d_Mo_set_69 : decode b_Mo_set 69 = .ok (.lload 9, 2) := by decide +kernel
theorem d_Mo_set_71 : decode b_Mo_set 71 = .ok (.lload 7, 2) := by decide +kernel
theorem d_Mo_set_73 : decode b_Mo_set 73 = .ok (.aload_n 0, 1) := by decide +kernel
theorem d_Mo_set_74 : decode b_Mo_set 74 = .ok (.getfield 7, 3) := by decide +kernel
theorem d_Mo_set_77 : decode b_Mo_set 77 = .ok (.iload 11, 2) := by decide +kernel
theorem d_Mo_set_79 : decode b_Mo_set 79 = .ok (.iload 6, 2) := by decide +kernel
theorem d_Mo_set_81 : decode b_Mo_set 81 = .ok (.isub, 1) := by decide +kernel
theorem d_Mo_set_82 : decode b_Mo_set 82 = .ok (.iaload, 1) := by decide +kernel
theorem d_Mo_set_83 : decode b_Mo_set 83 = .ok (.i2l, 1) := by decide +kernel
theorem d_Mo_set_84 : decode b_Mo_set 84 = .ok (.lmul, 1) := by decide +kernel
theorem d_Mo_set_85 : decode b_Mo_set 85 = .ok (.ladd, 1) := by decide +kernel
theorem d_Mo_set_86 : decode b_Mo_set 86 = .ok (.aload_n 0, 1) := by decide +kernel
theorem d_Mo_set_87 : decode b_Mo_set 87 = .ok (.getfield 13, 3) := by decide +kernel
theorem d_Mo_set_90 : decode b_Mo_set 90 = .ok (.iload 11, 2) := by decide +kernel
theorem d_Mo_set_92 : decode b_Mo_set 92 = .ok (.iaload, 1) := by decide +kernel
theorem d_Mo_set_93 : decode b_Mo_set 93 = .ok (.i2l, 1) := by decide +kernel
theorem d_Mo_set_94 : decode b_Mo_set 94 = .ok (.ladd, 1) := by decide +kernel
theorem d_Mo_set_95 : decode b_Mo_set 95 = .ok (.lstore 9, 2) := by decide +kernel
theorem d_Mo_set_97 : decode b_Mo_set 97 = .ok (.aload_n 0, 1) := by decide +kernel
theorem d_Mo_set_98 : decode b_Mo_set 98 = .ok (.getfield 13, 3) := by decide +kernel
theorem d_Mo_set_101 : decode b_Mo_set 101 = .ok (.iload 11, 2) := by decide +kernel
theorem d_Mo_set_103 : decode b_Mo_set 103 = .ok (.lload 9, 2) := by decide +kernel
theorem d_Mo_set_105 : decode b_Mo_set 105 = .ok (.ldc2_w 59, 3) := by decide +kernel
theorem d_Mo_set_108 : decode b_Mo_set 108 = .ok (.lrem, 1) := by decide +kernel
theorem d_Mo_set_109 : decode b_Mo_set 109 = .ok (.l2i, 1) := by decide +kernel
theorem d_Mo_set_110 : decode b_Mo_set 110 = .ok (.iastore, 1) := by decide +kernel
theorem d_Mo_set_111 : decode b_Mo_set 111 = .ok (.lload 9, 2) := by decide +kernel
theorem d_Mo_set_113 : decode b_Mo_set 113 = .ok (.ldc2_w 59, 3) := by decide +kernel
theorem d_Mo_set_116 : decode b_Mo_set 116 = .ok (.ldiv, 1) := by decide +kernel
theorem d_Mo_set_117 : decode b_Mo_set 117 = .ok (.lstore 9, 2) := by decide +kernel
theorem d_Mo_set_119 : decode b_Mo_set 119 = .ok (.iinc 11 1, 3) := by decide +kernel
theorem d_Mo_set_122 : decode b_Mo_set 122 = .ok (.goto (-61), 3) := by decide +kernel
theorem d_Mo_set_125 : decode b_Mo_set 125 = .ok (.iinc 6 1, 3) := by decide +kernel
theorem d_Mo_set_128 : decode b_Mo_set 128 = .ok (.goto (-97), 3) := by decide +kernel
theorem d_Mo_set_131 : decode b_Mo_set 131 = .ok (.iconst 0, 1) := by decide +kernel
theorem d_Mo_set_132 : decode b_Mo_set 132 = .ok (.istore 6, 2) := by decide +kernel
theorem d_Mo_set_134 : decode b_Mo_set 134 = .ok (.iload 6, 2) := by decide +kernel
theorem d_Mo_set_136 : decode b_Mo_set 136 = .ok (.sipush 156, 3) := by decide +kernel
theorem d_Mo_set_139 : decode b_Mo_set 139 = .ok (.if_icmp .ge 60, 3) := by decide +kernel
theorem d_Mo_set_142 : decode b_Mo_set 142 = .ok (.aload_n 0, 1) := by decide +kernel
theorem d_Mo_set_143 : decode b_Mo_set 143 = .ok (.getfield 13, 3) := by decide +kernel
theorem d_Mo_set_146 : decode b_Mo_set 146 = .ok (.iload 6, 2) := by decide +kernel
theorem d_Mo_set_148 : decode b_Mo_set 148 = .ok (.iaload, 1) := by decide +kernel
theorem d_Mo_set_149 : decode b_Mo_set 149 = .ok (.istore 7, 2) := by decide +kernel
theorem d_Mo_set_151 : decode b_Mo_set 151 = .ok (.bipush 9, 2) := by decide +kernel
theorem d_Mo_set_153 : decode b_Mo_set 153 = .ok (.iload 6, 2) := by decide +kernel
theorem d_Mo_set_155 : decode b_Mo_set 155 = .ok (.imul, 1) := by decide +kernel
theorem d_Mo_set_156 : decode b_Mo_set 156 = .ok (.istore 8, 2) := by decide +kernel
theorem d_Mo_set_158 : decode b_Mo_set 158 = .ok (.iload 8, 2) := by decide +kernel
theorem d_Mo_set_160 : decode b_Mo_set 160 = .ok (.bipush 9, 2) := by decide +kernel
theorem d_Mo_set_162 : decode b_Mo_set 162 = .ok (.iload 6, 2) := by decide +kernel
theorem d_Mo_set_164 : decode b_Mo_set 164 = .ok (.imul, 1) := by decide +kernel
theorem d_Mo_set_165 : decode b_Mo_set 165 = .ok (.bipush 9, 2) := by decide +kernel
theorem d_Mo_set_167 : decode b_Mo_set 167 = .ok (.iadd, 1) := by decide +kernel
theorem d_Mo_set_168 : decode b_Mo_set 168 = .ok (.if_icmp .ge 25, 3) := by decide +kernel
theorem d_Mo_set_171 : decode b_Mo_set 171 = .ok (.aload_n 1, 1) := by decide +kernel
theorem d_Mo_set_172 : decode b_Mo_set 172 = .ok (.iload 8, 2) := by decide +kernel
theorem d_Mo_set_174 : decode b_Mo_set 174 = .ok (.iload 7, 2) := by decide +kernel
theorem d_Mo_set_176 : decode b_Mo_set 176 = .ok (.bipush 10, 2) := by decide +kernel
theorem d_Mo_set_178 : decode b_Mo_set 178 = .ok (.irem, 1) := by decide +kernel
theorem d_Mo_set_179 : decode b_Mo_set 179 = .ok (.iastore, 1) := by decide +kernel
theorem d_Mo_set_180 : decode b_Mo_set 180 = .ok (.iload 7, 2) := by decide +kernel
theorem d_Mo_set_182 : decode b_Mo_set 182 = .ok (.bipush 10, 2) := by decide +kernel
theorem d_Mo_set_184 : decode b_Mo_set 184 = .ok (.idiv, 1) := by decide +kernel
theorem d_Mo_set_185 : decode b_Mo_set 185 = .ok (.istore 7, 2) := by decide +kernel
theorem d_Mo_set_187 : decode b_Mo_set 187 = .ok (.iinc 8 1, 3) := by decide +kernel
theorem d_Mo_set_190 : decode b_Mo_set 190 = .ok (.goto (-32), 3) := by decide +kernel
theorem d_Mo_set_193 : decode b_Mo_set 193 = .ok (.iinc 6 1, 3) := by decide +kernel
theorem d_Mo_set_196 : decode b_Mo_set 196 = .ok (.goto (-62), 3) := by decide +kernel
theorem d_Mo_set_199 : decode b_Mo_set 199 = .ok (.return_, 1) := by decide +kernel
abbrev Qc_Mo_set (D : va_G) (h0 : Nat) (th : Int) (au : Nat) (al : Nat) (av : Nat) (ao : Nat) (ah : Nat) (ar : Nat) (ap : Nat) (t : List Nat) (ng : Bool) (me : Nat) (mf : Nat) (mb : Nat) (mm : Nat) (ms : Nat) (mt : Int) (mq : Nat) (mz : Int) (kU : ClassId) (fu : Nat → Int32) (kL : ClassId) (fl : Nat → Int32) (rw : Nat) (kW : ClassId) (fw : Nat → Int32) (uu : Nat) (mn : Nat) (A : Nat → Prop) : Array Value → State → Outcome → State → Prop := va_Qv (fun u : (Nat → Int32) × (Nat → Int32) => DigI (u.2) (mn * uu)) (fun (u : (Nat → Int32) × (Nat → Int32)) t9 => cpost D A [(h0, .inr (5, [.int (iZ (th)), .ref au, .ref al, .ref av, .ref ao, .ref ah, .ref ar, .ref ap, .int (iZ ((((t).length : Nat) : Int))), .int (bZ (ng = true)), .int (iZ (((me : Nat) : Int))), .long (lN (mf)), .int (iZ (((mb : Nat) : Int))), .int (iZ (((mm : Nat) : Int))), .long (lN (ms)), .int (iZ (mt)), .long (lN (mq)), .int (iZ (mz))])), (au, .inl (kU, 156, .inl fu)), (al, .inl (kL, 156, .inl ((u.1)))), (rw, .inl (kW, 1404, .inl ((u.2))))] [(kU, .int), (kL, .int), (kW, .int)] t9) A
set_option maxHeartbeats 4000000 in
set_option maxRecDepth 100000 in
theorem lp_Mo_set_158 {p : Program} {l : Launch} {e : Env} {s : State} {m : MethodId} {args : Array Value} {below : List Frame} {meth : Method} {c : Code} {A : Nat → Prop} {D : va_G} {Z : Nat → Nat} (h0 : Nat) (th : Int) (au : Nat) (al : Nat) (av : Nat) (ao : Nat) (ah : Nat) (ar : Nat) (ap : Nat) (t : List Nat) (ng : Bool) (me : Nat) (mf : Nat) (mb : Nat) (mm : Nat) (ms : Nat) (mt : Int) (mq : Nat) (mz : Int) (kU : ClassId) (fu : Nat → Int32) (kL : ClassId) (fl : Nat → Int32) (rw : Nat) (kW : ClassId) (fw : Nat → Int32) (uu : Nat) (mn : Nat) (hU : LimI fu uu) (hmn : mn < 9223372036854775808) (hlt : mn * uu < 1000000000 ^ 156) (C0 : cxA p s m args meth c b_Mo_set 12 R_Mo none) (hA : ∀ q : Nat, s.heap.size ≤ q → A q) (hE : Ev Z A s s.heap) (k : Nat) (fa : Nat → Int32) (hex : ∀ (f3 : Nat → Int32) (H : Heap) (locs : List Loc) (ls : Array Slot), (∀ j, j < 9 * (k + 1) → f3 j = iZ ((dt (mn * uu) j : Nat) : Int)) → va_K D classes [(kU, .int), (kL, .int), (kW, .int)] s → va_P D classes [(h0, .inr (5, [.int (iZ (th)), .ref au, .ref al, .ref av, .ref ao, .ref ah, .ref ar, .ref ap, .int (iZ ((((t).length : Nat) : Int))), .int (bZ (ng = true)), .int (iZ (((me : Nat) : Int))), .long (lN (mf)), .int (iZ (((mb : Nat) : Int))), .int (iZ (((mm : Nat) : Int))), .long (lN (ms)), .int (iZ (mt)), .long (lN (mq)), .int (iZ (mz))])), (au, .inl (kU, 156, .inl fu)), (al, .inl (kL, 156, .inl fa)), (rw, .inl (kW, 1404, .inl f3))] H → va_D A [(h0, .inr (5, [.int (iZ (th)), .ref au, .ref al, .ref av, .ref ao, .ref ah, .ref ar, .ref ap, .int (iZ ((((t).length : Nat) : Int))), .int (bZ (ng = true)), .int (iZ (((me : Nat) : Int))), .long (lN (mf)), .int (iZ (((mb : Nat) : Int))), .int (iZ (((mm : Nat) : Int))), .long (lN (ms)), .int (iZ (mt)), .long (lN (mq)), .int (iZ (mz))])), (au, .inl (kU, 156, .inl fu)), (al, .inl (kL, 156, .inl fa)), (rw, .inl (kW, 1404, .inl f3))] → va_S A s.heap H locs → lv_has ls 12 [(0, .ref h0), (1, .ref rw), (6, .int (iZ (((k : Nat) : Int))))] → W p l e ({ frames := 0, cells := 0, slots := 0, locals := 0 } : Room) s m args below meth c H locs 0 0 (MQ below (Qc_Mo_set D h0 th au al av ao ah ar ap t ng me mf mb mm ms mt mq mz kU fu kL fl rw kW fw uu mn A) args s 0 0 A) (F0 m 193 ls [])) : ∀ (N : Nat) (q : Nat) (fb : Nat → Int32) (H : Heap) (locs : List Loc) (ls : Array Slot), 9 - q < N → (k < 156) → (q ≤ 9) → (∀ j, j < 9 * k + q → fb j = iZ ((dt (mn * uu) j : Nat) : Int)) → va_K D classes [(kU, .int), (kL, .int), (kW, .int)] s → va_P D classes [(h0, .inr (5, [.int (iZ (th)), .ref au, .ref al, .ref av, .ref ao, .ref ah, .ref ar, .ref ap, .int (iZ ((((t).length : Nat) : Int))), .int (bZ (ng = true)), .int (iZ (((me : Nat) : Int))), .long (lN (mf)), .int (iZ (((mb : Nat) : Int))), .int (iZ (((mm : Nat) : Int))), .long (lN (ms)), .int (iZ (mt)), .long (lN (mq)), .int (iZ (mz))])), (au, .inl (kU, 156, .inl fu)), (al, .inl (kL, 156, .inl fa)), (rw, .inl (kW, 1404, .inl fb))] H → va_D A [(h0, .inr (5, [.int (iZ (th)), .ref au, .ref al, .ref av, .ref ao, .ref ah, .ref ar, .ref ap, .int (iZ ((((t).length : Nat) : Int))), .int (bZ (ng = true)), .int (iZ (((me : Nat) : Int))), .long (lN (mf)), .int (iZ (((mb : Nat) : Int))), .int (iZ (((mm : Nat) : Int))), .long (lN (ms)), .int (iZ (mt)), .long (lN (mq)), .int (iZ (mz))])), (au, .inl (kU, 156, .inl fu)), (al, .inl (kL, 156, .inl fa)), (rw, .inl (kW, 1404, .inl fb))] → va_S A s.heap H locs → lv_has ls 12 [(0, .ref h0), (1, .ref rw), (6, .int (iZ (((k : Nat) : Int)))), (7, .int (iZ (((dg (mn * uu) k / 10 ^ q : Nat) : Int)))), (8, .int (iZ (((9 * k + q : Nat) : Int))))] → W p l e ({ frames := 0, cells := 0, slots := 0, locals := 0 } : Room) s m args below meth c H locs 0 0 (MQ below (Qc_Mo_set D h0 th au al av ao ah ar ap t ng me mf mb mm ms mt mq mz kU fu kL fl rw kW fw uu mn A) args s 0 0 A) (F0 m 158 ls []) := by
  obtain ⟨hx, hb, hml, hown, hts, hr, hlocks⟩ := id C0
  intro N
  induction N with
  | zero => intro q fb H locs ls hN; exact absurd hN (Nat.not_lt_zero _)
  | succ N ih =>
    intro q fb H locs ls hN hk hq hg hK hP hD hS hl
    refine lv_iload hx hb d_Mo_set_158 (lv_at hl 4 rfl) ?_
    refine lv_bipush (v := iZ (9)) hx hb d_Mo_set_160 (by decide) ?_
    refine lv_iload hx hb d_Mo_set_162 (lv_at hl 2 rfl) ?_
    refine zv_imul hx hb d_Mo_set_164 ?_
    refine lv_bipush (v := iZ (9)) hx hb d_Mo_set_165 (by decide) ?_
    refine zv_iadd hx hb d_Mo_set_167 ?_
    refine zv_top (y := iZ (((9 * k + 9 : Nat) : Int))) (congrArg iZ (by omega)) ?_
    have hdl := dg_lt (mn * uu) k
    have hdq : dg (mn * uu) k / 10 ^ q ≤ dg (mn * uu) k := Nat.div_le_self _ _
    refine zv_icmp_ge (tgt := 193) hx hb d_Mo_set_168 (by decide) (by omega) (by omega) (fun c168 => ?_) (fun c168 => ?_)
    · have eq9 : q = 9 := by omega
      exact hex fb _ _ _ (fun j h => hg j (by omega)) (hK.sub [0, 1, 2] rfl) (hP.sub [0, 1, 2, 3] rfl) (hD.sub [0, 1, 2, 3] (by decide) rfl) hS (lv_sub hl [0, 1, 2] rfl)
    · refine lv_aload_n hx hb d_Mo_set_171 rfl (lv_at hl 1 rfl) ?_
      refine lv_iload hx hb d_Mo_set_172 (lv_at hl 4 rfl) ?_
      refine lv_iload hx hb d_Mo_set_174 (lv_at hl 3 rfl) ?_
      refine lv_bipush (v := iZ (10)) hx hb d_Mo_set_176 (by decide) ?_
      refine zv_irem hx hb d_Mo_set_178 (div_in hdl) (by omega) ?_
      refine zv_top (y := iZ (((dt (mn * uu) (9 * k + q) : Nat) : Int))) (congrArg iZ (by rw [← dt_limb (show q < 9 by omega)]; rfl)) ?_
      refine zv_iast hx hb hK hP hD hS 3 2 rfl rfl (9 * k + q) (rfl) (by omega) (by decide) d_Mo_set_179 (fun H locs hP hD hS => ?_)
      have hP : va_P D classes [(h0, .inr (5, [.int (iZ (th)), .ref au, .ref al, .ref av, .ref ao, .ref ah, .ref ar, .ref ap, .int (iZ ((((t).length : Nat) : Int))), .int (bZ (ng = true)), .int (iZ (((me : Nat) : Int))), .long (lN (mf)), .int (iZ (((mb : Nat) : Int))), .int (iZ (((mm : Nat) : Int))), .long (lN (ms)), .int (iZ (mt)), .long (lN (mq)), .int (iZ (mz))])), (au, .inl (kU, 156, .inl fu)), (al, .inl (kL, 156, .inl fa)), (rw, .inl (kW, 1404, .inl (upd fb (9 * k + q) (iZ (((dt (mn * uu) (9 * k + q) : Nat) : Int))))))] H := hP
      have hD : va_D A [(h0, .inr (5, [.int (iZ (th)), .ref au, .ref al, .ref av, .ref ao, .ref ah, .ref ar, .ref ap, .int (iZ ((((t).length : Nat) : Int))), .int (bZ (ng = true)), .int (iZ (((me : Nat) : Int))), .long (lN (mf)), .int (iZ (((mb : Nat) : Int))), .int (iZ (((mm : Nat) : Int))), .long (lN (ms)), .int (iZ (mt)), .long (lN (mq)), .int (iZ (mz))])), (au, .inl (kU, 156, .inl fu)), (al, .inl (kL, 156, .inl fa)), (rw, .inl (kW, 1404, .inl (upd fb (9 * k + q) (iZ (((dt (mn * uu) (9 * k + q) : Nat) : Int))))))] := hD
      refine lv_iload hx hb d_Mo_set_180 (lv_at hl 3 rfl) ?_
      refine lv_bipush (v := iZ (10)) hx hb d_Mo_set_182 (by decide) ?_
      refine zv_idiv hx hb d_Mo_set_184 (div_in hdl) (by omega) ?_
      refine zv_top (y := iZ (((dg (mn * uu) k / 10 ^ (q + 1) : Nat) : Int))) (congrArg iZ (by rw [Nat.pow_succ, ← Nat.div_div_eq_div_mul]; rfl)) ?_
      refine lv_istore (lv' := [(7, .int (iZ (((dg (mn * uu) k / 10 ^ (q + 1) : Nat) : Int)))), (0, .ref h0), (1, .ref rw), (6, .int (iZ (((k : Nat) : Int)))), (8, .int (iZ (((9 * k + q : Nat) : Int))))]) hx hb d_Mo_set_185 hl (by decide) rfl (fun ls hl => ?_)
      refine lv_iinc (v := iZ (((9 * k + (q + 1) : Nat) : Int))) (lv' := [(8, .int (iZ (((9 * k + (q + 1) : Nat) : Int)))), (7, .int (iZ (((dg (mn * uu) k / 10 ^ (q + 1) : Nat) : Int)))), (0, .ref h0), (1, .ref rw), (6, .int (iZ (((k : Nat) : Int))))]) hx hb d_Mo_set_187 hl (k := 4) rfl ((iZ_add _ _).trans (congrArg iZ (by omega))) (by decide) rfl (fun ls hl => ?_)
      refine lv_goto (tgt := 158) hx hb d_Mo_set_190 (by decide) ?_
      exact ih (q + 1) (upd fb (9 * k + q) (iZ (((dt (mn * uu) (9 * k + q) : Nat) : Int)))) _ _ _ (by omega) (by omega) (by omega) (upd_up (F := fun j => iZ ((dt (mn * uu) j : Nat) : Int)) (k := 9 * k + q) hg rfl) (hK.sub [0, 1, 2] rfl) (hP.sub [0, 1, 2, 3] rfl) (hD.sub [0, 1, 2, 3] (by decide) rfl) hS (lv_sub hl [2, 3, 4, 1, 0] rfl)
set_option maxHeartbeats 4000000 in
set_option maxRecDepth 100000 in
theorem lp_Mo_set_134 {p : Program} {l : Launch} {e : Env} {s : State} {m : MethodId} {args : Array Value} {below : List Frame} {meth : Method} {c : Code} {A : Nat → Prop} {D : va_G} {Z : Nat → Nat} (h0 : Nat) (th : Int) (au : Nat) (al : Nat) (av : Nat) (ao : Nat) (ah : Nat) (ar : Nat) (ap : Nat) (t : List Nat) (ng : Bool) (me : Nat) (mf : Nat) (mb : Nat) (mm : Nat) (ms : Nat) (mt : Int) (mq : Nat) (mz : Int) (kU : ClassId) (fu : Nat → Int32) (kL : ClassId) (fl : Nat → Int32) (rw : Nat) (kW : ClassId) (fw : Nat → Int32) (uu : Nat) (mn : Nat) (hU : LimI fu uu) (hmn : mn < 9223372036854775808) (hlt : mn * uu < 1000000000 ^ 156) (C0 : cxA p s m args meth c b_Mo_set 12 R_Mo none) (hA : ∀ q : Nat, s.heap.size ≤ q → A q) (hE : Ev Z A s s.heap) : ∀ (N : Nat) (k : Nat) (fa : Nat → Int32) (fb : Nat → Int32) (H : Heap) (locs : List Loc) (ls : Array Slot), 156 - k < N → (k ≤ 156) → (LimI fa (mn * uu)) → (∀ j, j < 9 * k → fb j = iZ ((dt (mn * uu) j : Nat) : Int)) → va_K D classes [(kU, .int), (kL, .int), (kW, .int)] s → va_P D classes [(h0, .inr (5, [.int (iZ (th)), .ref au, .ref al, .ref av, .ref ao, .ref ah, .ref ar, .ref ap, .int (iZ ((((t).length : Nat) : Int))), .int (bZ (ng = true)), .int (iZ (((me : Nat) : Int))), .long (lN (mf)), .int (iZ (((mb : Nat) : Int))), .int (iZ (((mm : Nat) : Int))), .long (lN (ms)), .int (iZ (mt)), .long (lN (mq)), .int (iZ (mz))])), (au, .inl (kU, 156, .inl fu)), (al, .inl (kL, 156, .inl fa)), (rw, .inl (kW, 1404, .inl fb))] H → va_D A [(h0, .inr (5, [.int (iZ (th)), .ref au, .ref al, .ref av, .ref ao, .ref ah, .ref ar, .ref ap, .int (iZ ((((t).length : Nat) : Int))), .int (bZ (ng = true)), .int (iZ (((me : Nat) : Int))), .long (lN (mf)), .int (iZ (((mb : Nat) : Int))), .int (iZ (((mm : Nat) : Int))), .long (lN (ms)), .int (iZ (mt)), .long (lN (mq)), .int (iZ (mz))])), (au, .inl (kU, 156, .inl fu)), (al, .inl (kL, 156, .inl fa)), (rw, .inl (kW, 1404, .inl fb))] → va_S A s.heap H locs → lv_has ls 12 [(0, .ref h0), (1, .ref rw), (6, .int (iZ (((k : Nat) : Int))))] → W p l e ({ frames := 0, cells := 0, slots := 0, locals := 0 } : Room) s m args below meth c H locs 0 0 (MQ below (Qc_Mo_set D h0 th au al av ao ah ar ap t ng me mf mb mm ms mt mq mz kU fu kL fl rw kW fw uu mn A) args s 0 0 A) (F0 m 134 ls []) := by
  obtain ⟨hx, hb, hml, hown, hts, hr, hlocks⟩ := id C0
  intro N
  induction N with
  | zero => intro k fa fb H locs ls hN; exact absurd hN (Nat.not_lt_zero _)
  | succ N ih =>
    intro k fa fb H locs ls hN hk hf hg hK hP hD hS hl
    refine lv_iload hx hb d_Mo_set_134 (lv_at hl 2 rfl) ?_
    refine lv_sipush (v := iZ (156)) hx hb d_Mo_set_136 (by decide) ?_
    refine zv_icmp_ge (tgt := 199) hx hb d_Mo_set_139 (by decide) (by omega) (by omega) (fun c139 => ?_) (fun c139 => ?_)
    · have ek : k = 156 := by omega
      exact ew_v (fa, fb) hx hb hr hlocks d_Mo_set_199 (show DigI fb (mn * uu) from ⟨fun j h => hg j (by omega), by rw [← pB_156]; exact hlt⟩) (hP.sub (ws' := [(h0, .inr (5, [.int (iZ (th)), .ref au, .ref al, .ref av, .ref ao, .ref ah, .ref ar, .ref ap, .int (iZ ((((t).length : Nat) : Int))), .int (bZ (ng = true)), .int (iZ (((me : Nat) : Int))), .long (lN (mf)), .int (iZ (((mb : Nat) : Int))), .int (iZ (((mm : Nat) : Int))), .long (lN (ms)), .int (iZ (mt)), .long (lN (mq)), .int (iZ (mz))])), (au, .inl (kU, 156, .inl fu)), (al, .inl (kL, 156, .inl fa)), (rw, .inl (kW, 1404, .inl fb))]) [0, 1, 2, 3] rfl) (hD.sub (ws' := [(h0, .inr (5, [.int (iZ (th)), .ref au, .ref al, .ref av, .ref ao, .ref ah, .ref ar, .ref ap, .int (iZ ((((t).length : Nat) : Int))), .int (bZ (ng = true)), .int (iZ (((me : Nat) : Int))), .long (lN (mf)), .int (iZ (((mb : Nat) : Int))), .int (iZ (((mm : Nat) : Int))), .long (lN (ms)), .int (iZ (mt)), .long (lN (mq)), .int (iZ (mz))])), (au, .inl (kU, 156, .inl fu)), (al, .inl (kL, 156, .inl fa)), (rw, .inl (kW, 1404, .inl fb))]) [0, 1, 2, 3] (by decide) rfl) (hK.sub (tys' := [(kU, .int), (kL, .int), (kW, .int)]) [0, 1, 2] rfl) hS (Nat.le_of_ble_eq_true rfl) (Nat.le_of_ble_eq_true rfl)
    · refine lv_aload_n hx hb d_Mo_set_142 rfl (lv_at hl 0 rfl) ?_
      refine va_get (D := D) (ci := 5) (v := .ref al) (C := R_Mo) (T := F_Mo) (N := 18) hx hb hts i_Mo hown hK hP 0 rfl rfl 2 (by decide) (hts _ kw_298_) (fun _ h9 => h9) rfl d_Mo_set_143 ?_
      refine lv_iload hx hb d_Mo_set_146 (lv_at hl 2 rfl) ?_
      refine zv_iald hx hb hK hP 2 1 rfl rfl k (rfl) (by omega) (by decide) d_Mo_set_148 ?_
      refine zv_top (y := iZ (((dg (mn * uu) k / 10 ^ 0 : Nat) : Int))) ((hf.1 k (by omega)).trans (congrArg iZ (by rw [Nat.pow_zero, Nat.div_one]))) ?_
      refine lv_istore (lv' := [(7, .int (iZ (((dg (mn * uu) k / 10 ^ 0 : Nat) : Int)))), (0, .ref h0), (1, .ref rw), (6, .int (iZ (((k : Nat) : Int))))]) hx hb d_Mo_set_149 hl (by decide) rfl (fun ls hl => ?_)
      refine lv_bipush (v := iZ (9)) hx hb d_Mo_set_151 (by decide) ?_
      refine lv_iload hx hb d_Mo_set_153 (lv_at hl 3 rfl) ?_
      refine zv_imul hx hb d_Mo_set_155 ?_
      refine zv_top (y := iZ (((9 * k + 0 : Nat) : Int))) (congrArg iZ (by omega)) ?_
      refine lv_istore (lv' := [(8, .int (iZ (((9 * k + 0 : Nat) : Int)))), (7, .int (iZ (((dg (mn * uu) k / 10 ^ 0 : Nat) : Int)))), (0, .ref h0), (1, .ref rw), (6, .int (iZ (((k : Nat) : Int))))]) hx hb d_Mo_set_156 hl (by decide) rfl (fun ls hl => ?_)
      refine lp_Mo_set_158 h0 th au al av ao ah ar ap t ng me mf mb mm ms mt mq mz kU fu kL fl rw kW fw uu mn hU hmn hlt C0 hA hE k fa (fun f3 H locs ls hg3 hK hP hD hS hl => ?_) (9 - 0 + 1) 0 fb _ _ _ (Nat.lt_succ_self _) (by omega) (by omega) (fun j h => hg j (by omega)) (hK.sub [0, 1, 2] rfl) (hP.sub [0, 1, 2, 3] rfl) (hD.sub [0, 1, 2, 3] (by decide) rfl) hS (lv_sub hl [2, 3, 4, 1, 0] rfl)
      have hg3 : ∀ j, j < 9 * (k + 1) → f3 j = iZ ((dt (mn * uu) j : Nat) : Int) := hg3
      refine lv_iinc (v := iZ (((k + 1 : Nat) : Int))) (lv' := [(6, .int (iZ (((k + 1 : Nat) : Int)))), (0, .ref h0), (1, .ref rw)]) hx hb d_Mo_set_193 hl (k := 2) rfl ((iZ_add _ _).trans (congrArg iZ (by omega))) (by decide) rfl (fun ls hl => ?_)
      refine lv_goto (tgt := 134) hx hb d_Mo_set_196 (by decide) ?_
      exact ih (k + 1) fa f3 _ _ _ (by omega) (by omega) (hf) (hg3) (hK.sub [0, 1, 2] rfl) (hP.sub [0, 1, 2, 3] rfl) (hD.sub [0, 1, 2, 3] (by decide) rfl) hS (lv_sub hl [1, 2, 0] rfl)
set_option maxHeartbeats 4000000 in
set_option maxRecDepth 100000 in
theorem lp_Mo_set_61 {p : Program} {l : Launch} {e : Env} {s : State} {m : MethodId} {args : Array Value} {below : List Frame} {meth : Method} {c : Code} {A : Nat → Prop} {D : va_G} {Z : Nat → Nat} (h0 : Nat) (th : Int) (au : Nat) (al : Nat) (av : Nat) (ao : Nat) (ah : Nat) (ar : Nat) (ap : Nat) (t : List Nat) (ng : Bool) (me : Nat) (mf : Nat) (mb : Nat) (mm : Nat) (ms : Nat) (mt : Int) (mq : Nat) (mz : Int) (kU : ClassId) (fu : Nat → Int32) (kL : ClassId) (fl : Nat → Int32) (rw : Nat) (kW : ClassId) (fw : Nat → Int32) (uu : Nat) (mn : Nat) (hU : LimI fu uu) (hmn : mn < 9223372036854775808) (hlt : mn * uu < 1000000000 ^ 156) (C0 : cxA p s m args meth c b_Mo_set 12 R_Mo none) (hA : ∀ q : Nat, s.heap.size ≤ q → A q) (hE : Ev Z A s s.heap) (i : Nat) (lf : Nat) (by1 : Nat) (hex : ∀ (f3 : Nat → Int32) (H : Heap) (locs : List Loc) (ls : Array Slot), (∀ j, j < 156 → f3 j = iZ ((dg ((uu * (mn % 1000000000 ^ i)) + by1 * uu * 1000000000 ^ i) j : Nat) : Int)) → va_K D classes [(kU, .int), (kL, .int), (kW, .int)] s → va_P D classes [(h0, .inr (5, [.int (iZ (th)), .ref au, .ref al, .ref av, .ref ao, .ref ah, .ref ar, .ref ap, .int (iZ ((((t).length : Nat) : Int))), .int (bZ (ng = true)), .int (iZ (((me : Nat) : Int))), .long (lN (mf)), .int (iZ (((mb : Nat) : Int))), .int (iZ (((mm : Nat) : Int))), .long (lN (ms)), .int (iZ (mt)), .long (lN (mq)), .int (iZ (mz))])), (au, .inl (kU, 156, .inl fu)), (al, .inl (kL, 156, .inl f3)), (rw, .inl (kW, 1404, .inl fw))] H → va_D A [(h0, .inr (5, [.int (iZ (th)), .ref au, .ref al, .ref av, .ref ao, .ref ah, .ref ar, .ref ap, .int (iZ ((((t).length : Nat) : Int))), .int (bZ (ng = true)), .int (iZ (((me : Nat) : Int))), .long (lN (mf)), .int (iZ (((mb : Nat) : Int))), .int (iZ (((mm : Nat) : Int))), .long (lN (ms)), .int (iZ (mt)), .long (lN (mq)), .int (iZ (mz))])), (au, .inl (kU, 156, .inl fu)), (al, .inl (kL, 156, .inl f3)), (rw, .inl (kW, 1404, .inl fw))] → va_S A s.heap H locs → lv_has ls 12 [(0, .ref h0), (1, .ref rw), (4, .long (lN (lf))), (6, .int (iZ (((i : Nat) : Int))))] → W p l e ({ frames := 0, cells := 0, slots := 0, locals := 0 } : Room) s m args below meth c H locs 0 0 (MQ below (Qc_Mo_set D h0 th au al av ao ah ar ap t ng me mf mb mm ms mt mq mz kU fu kL fl rw kW fw uu mn A) args s 0 0 A) (F0 m 125 ls [])) : ∀ (N : Nat) (k : Nat) (ca : Nat) (fa : Nat → Int32) (H : Heap) (locs : List Loc) (ls : Array Slot), 156 - k < N → (i ≤ k ∧ k ≤ 156) → (by1 < 1000000000) → (ca = ((uu * (mn % 1000000000 ^ i)) % 1000000000 ^ k + by1 * (uu % 1000000000 ^ (k - i)) * 1000000000 ^ i) / 1000000000 ^ k) → (∀ j, j < k → fa j = iZ ((dg ((uu * (mn % 1000000000 ^ i)) + by1 * uu * 1000000000 ^ i) j : Nat) : Int)) → (∀ j, k ≤ j → j < 156 → fa j = iZ ((dg (uu * (mn % 1000000000 ^ i)) j : Nat) : Int)) → va_K D classes [(kU, .int), (kL, .int), (kW, .int)] s → va_P D classes [(h0, .inr (5, [.int (iZ (th)), .ref au, .ref al, .ref av, .ref ao, .ref ah, .ref ar, .ref ap, .int (iZ ((((t).length : Nat) : Int))), .int (bZ (ng = true)), .int (iZ (((me : Nat) : Int))), .long (lN (mf)), .int (iZ (((mb : Nat) : Int))), .int (iZ (((mm : Nat) : Int))), .long (lN (ms)), .int (iZ (mt)), .long (lN (mq)), .int (iZ (mz))])), (au, .inl (kU, 156, .inl fu)), (al, .inl (kL, 156, .inl fa)), (rw, .inl (kW, 1404, .inl fw))] H → va_D A [(h0, .inr (5, [.int (iZ (th)), .ref au, .ref al, .ref av, .ref ao, .ref ah, .ref ar, .ref ap, .int (iZ ((((t).length : Nat) : Int))), .int (bZ (ng = true)), .int (iZ (((me : Nat) : Int))), .long (lN (mf)), .int (iZ (((mb : Nat) : Int))), .int (iZ (((mm : Nat) : Int))), .long (lN (ms)), .int (iZ (mt)), .long (lN (mq)), .int (iZ (mz))])), (au, .inl (kU, 156, .inl fu)), (al, .inl (kL, 156, .inl fa)), (rw, .inl (kW, 1404, .inl fw))] → va_S A s.heap H locs → lv_has ls 12 [(0, .ref h0), (1, .ref rw), (4, .long (lN (lf))), (6, .int (iZ (((i : Nat) : Int)))), (7, .long (lN (by1))), (9, .long (lN (ca))), (11, .int (iZ (((k : Nat) : Int))))] → W p l e ({ frames := 0, cells := 0, slots := 0, locals := 0 } : Room) s m args below meth c H locs 0 0 (MQ below (Qc_Mo_set D h0 th au al av ao ah ar ap t ng me mf mb mm ms mt mq mz kU fu kL fl rw kW fw uu mn A) args s 0 0 A) (F0 m 61 ls []) := by
  obtain ⟨hx, hb, hml, hown, hts, hr, hlocks⟩ := id C0
  intro N
  induction N with
  | zero => intro k ca fa H locs ls hN; exact absurd hN (Nat.not_lt_zero _)
  | succ N ih =>
    intro k ca fa H locs ls hN hk hby hca hf1 hf2 hK hP hD hS hl
    refine lv_iload hx hb d_Mo_set_61 (lv_at hl 6 rfl) ?_
    refine lv_sipush (v := iZ (156)) hx hb d_Mo_set_63 (by decide) ?_
    refine zv_icmp_ge (tgt := 125) hx hb d_Mo_set_66 (by decide) (by omega) (by omega) (fun c66 => ?_) (fun c66 => ?_)
    · have ek : k = 156 := by omega
      exact hex fa _ _ _ (fun j h => hf1 j (by omega)) (hK.sub [0, 1, 2] rfl) (hP.sub [0, 1, 2, 3] rfl) (hD.sub [0, 1, 2, 3] (by decide) rfl) hS (lv_sub hl [0, 1, 2, 3] rfl)
    · have hdu := dg_lt uu (k - i)
      have hdl := dg_lt (uu * (mn % 1000000000 ^ i)) k
      have hcb : ca ≤ 1000000000 := by rw [hca]; exact row_c hk.1 hby
      have hpr : by1 * dg uu (k - i) ≤ 999999999 * 999999999 := Nat.mul_le_mul (by omega) (by omega)
      obtain ⟨st1, st2⟩ := row_step (L := uu * (mn % 1000000000 ^ i)) (U := uu) (by' := by1) hk.1 (X := ((uu * (mn % 1000000000 ^ i)) % 1000000000 ^ k + by1 * (uu % 1000000000 ^ (k - i)) * 1000000000 ^ i)) rfl
      rw [← hca] at st1 st2
      refine lv_lload hx hb d_Mo_set_69 (lv_at hl 5 rfl) ?_
      refine lv_lload hx hb d_Mo_set_71 (lv_at hl 4 rfl) ?_
      refine lv_aload_n hx hb d_Mo_set_73 rfl (lv_at hl 0 rfl) ?_
      refine va_get (D := D) (ci := 5) (v := .ref au) (C := R_Mo) (T := F_Mo) (N := 18) hx hb hts i_Mo hown hK hP 0 rfl rfl 1 (by decide) (hts _ kw_297_) (fun _ h9 => h9) rfl d_Mo_set_74 ?_
      refine lv_iload hx hb d_Mo_set_77 (lv_at hl 6 rfl) ?_
      refine lv_iload hx hb d_Mo_set_79 (lv_at hl 3 rfl) ?_
      refine zv_isub hx hb d_Mo_set_81 ?_
      refine zv_iald hx hb hK hP 1 0 rfl rfl (k - i) (by omega) (by omega) (by decide) d_Mo_set_82 ?_
      refine zv_top (y := iZ (((dg uu (k - i) : Nat) : Int))) (hU.1 (k - i) (by omega)) ?_
      refine nv_i2l (n := (dg uu (k - i))) hx hb d_Mo_set_83 (by omega) (by omega) ?_
      refine nv_lmul hx hb d_Mo_set_84 ?_
      refine nv_ladd hx hb d_Mo_set_85 ?_
      refine lv_aload_n hx hb d_Mo_set_86 rfl (lv_at hl 0 rfl) ?_
      refine va_get (D := D) (ci := 5) (v := .ref al) (C := R_Mo) (T := F_Mo) (N := 18) hx hb hts i_Mo hown hK hP 0 rfl rfl 2 (by decide) (hts _ kw_298_) (fun _ h9 => h9) rfl d_Mo_set_87 ?_
      refine lv_iload hx hb d_Mo_set_90 (lv_at hl 6 rfl) ?_
      refine zv_iald hx hb hK hP 2 1 rfl rfl k (rfl) (by omega) (by decide) d_Mo_set_92 ?_
      refine zv_top (y := iZ (((dg (uu * (mn % 1000000000 ^ i)) k : Nat) : Int))) (hf2 k (Nat.le_refl k) (by omega)) ?_
      refine nv_i2l (n := (dg (uu * (mn % 1000000000 ^ i)) k)) hx hb d_Mo_set_93 (by omega) (by omega) ?_
      refine nv_ladd hx hb d_Mo_set_94 ?_
      refine nv_nm (fun cv h_cv => ?_)
      refine lv_lstore (lv' := [(9, .long (lN (cv))), (0, .ref h0), (1, .ref rw), (4, .long (lN (lf))), (6, .int (iZ (((i : Nat) : Int)))), (7, .long (lN (by1))), (11, .int (iZ (((k : Nat) : Int))))]) hx hb d_Mo_set_95 hl (by decide) rfl (fun ls hl => ?_)
      refine lv_aload_n hx hb d_Mo_set_97 rfl (lv_at hl 1 rfl) ?_
      refine va_get (D := D) (ci := 5) (v := .ref al) (C := R_Mo) (T := F_Mo) (N := 18) hx hb hts i_Mo hown hK hP 0 rfl rfl 2 (by decide) (hts _ kw_298_) (fun _ h9 => h9) rfl d_Mo_set_98 ?_
      refine lv_iload hx hb d_Mo_set_101 (lv_at hl 6 rfl) ?_
      refine lv_lload hx hb d_Mo_set_103 (lv_at hl 0 rfl) ?_
      refine lv_ldc2 (v := (1000000000)) hx hb hown (hts _ kw_317_) d_Mo_set_105 ?_
      refine nv_top (y := lN 1000000000) (by decide) ?_
      refine nv_lrem hx hb d_Mo_set_108 (by omega) (by decide) (by decide) ?_
      refine nv_l2i hx hb d_Mo_set_109 ?_
      refine zv_iast hx hb hK hP hD hS 2 1 rfl rfl k (rfl) (by omega) (by decide) d_Mo_set_110 (fun H locs hP hD hS => ?_)
      have hP : va_P D classes [(h0, .inr (5, [.int (iZ (th)), .ref au, .ref al, .ref av, .ref ao, .ref ah, .ref ar, .ref ap, .int (iZ ((((t).length : Nat) : Int))), .int (bZ (ng = true)), .int (iZ (((me : Nat) : Int))), .long (lN (mf)), .int (iZ (((mb : Nat) : Int))), .int (iZ (((mm : Nat) : Int))), .long (lN (ms)), .int (iZ (mt)), .long (lN (mq)), .int (iZ (mz))])), (au, .inl (kU, 156, .inl fu)), (al, .inl (kL, 156, .inl (upd fa k (iZ (((cv % 1000000000 : Nat) : Int)))))), (rw, .inl (kW, 1404, .inl fw))] H := hP
      have hD : va_D A [(h0, .inr (5, [.int (iZ (th)), .ref au, .ref al, .ref av, .ref ao, .ref ah, .ref ar, .ref ap, .int (iZ ((((t).length : Nat) : Int))), .int (bZ (ng = true)), .int (iZ (((me : Nat) : Int))), .long (lN (mf)), .int (iZ (((mb : Nat) : Int))), .int (iZ (((mm : Nat) : Int))), .long (lN (ms)), .int (iZ (mt)), .long (lN (mq)), .int (iZ (mz))])), (au, .inl (kU, 156, .inl fu)), (al, .inl (kL, 156, .inl (upd fa k (iZ (((cv % 1000000000 : Nat) : Int)))))), (rw, .inl (kW, 1404, .inl fw))] := hD
      refine lv_lload hx hb d_Mo_set_111 (lv_at hl 0 rfl) ?_
      refine lv_ldc2 (v := (1000000000)) hx hb hown (hts _ kw_317_) d_Mo_set_113 ?_
      refine nv_top (y := lN 1000000000) (by decide) ?_
      refine nv_ldiv hx hb d_Mo_set_116 (by omega) (by decide) (by decide) ?_
      refine lv_lstore (lv' := [(9, .long (lN (cv / 1000000000))), (0, .ref h0), (1, .ref rw), (4, .long (lN (lf))), (6, .int (iZ (((i : Nat) : Int)))), (7, .long (lN (by1))), (11, .int (iZ (((k : Nat) : Int))))]) hx hb d_Mo_set_117 hl (by decide) rfl (fun ls hl => ?_)
      refine lv_iinc (v := iZ (((k + 1 : Nat) : Int))) (lv' := [(11, .int (iZ (((k + 1 : Nat) : Int)))), (9, .long (lN (cv / 1000000000))), (0, .ref h0), (1, .ref rw), (4, .long (lN (lf))), (6, .int (iZ (((i : Nat) : Int)))), (7, .long (lN (by1)))]) hx hb d_Mo_set_119 hl (k := 6) rfl ((iZ_add _ _).trans (congrArg iZ (by omega))) (by decide) rfl (fun ls hl => ?_)
      refine lv_goto (tgt := 61) hx hb d_Mo_set_122 (by decide) ?_
      exact ih (k + 1) (cv / 1000000000) (upd fa k (iZ (((cv % 1000000000 : Nat) : Int)))) _ _ _ (by omega) (by omega) (by assumption) (by rw [h_cv]; exact st1) (upd_up (F := fun j => iZ ((dg ((uu * (mn % 1000000000 ^ i)) + by1 * uu * 1000000000 ^ i) j : Nat) : Int)) hf1 (by rw [h_cv, st2])) (upd_keep (F := fun j => iZ ((dg (uu * (mn % 1000000000 ^ i)) j : Nat) : Int)) (P := fun j => j < 156) hf2) (hK.sub [0, 1, 2] rfl) (hP.sub [0, 1, 2, 3] rfl) (hD.sub [0, 1, 2, 3] (by decide) rfl) hS (lv_sub hl [2, 3, 4, 5, 6, 1, 0] rfl)
set_option maxHeartbeats 4000000 in
set_option maxRecDepth 100000 in
theorem lp_Mo_set_31 {p : Program} {l : Launch} {e : Env} {s : State} {m : MethodId} {args : Array Value} {below : List Frame} {meth : Method} {c : Code} {A : Nat → Prop} {D : va_G} {Z : Nat → Nat} (h0 : Nat) (th : Int) (au : Nat) (al : Nat) (av : Nat) (ao : Nat) (ah : Nat) (ar : Nat) (ap : Nat) (t : List Nat) (ng : Bool) (me : Nat) (mf : Nat) (mb : Nat) (mm : Nat) (ms : Nat) (mt : Int) (mq : Nat) (mz : Int) (kU : ClassId) (fu : Nat → Int32) (kL : ClassId) (fl : Nat → Int32) (rw : Nat) (kW : ClassId) (fw : Nat → Int32) (uu : Nat) (mn : Nat) (hU : LimI fu uu) (hmn : mn < 9223372036854775808) (hlt : mn * uu < 1000000000 ^ 156) (C0 : cxA p s m args meth c b_Mo_set 12 R_Mo none) (hA : ∀ q : Nat, s.heap.size ≤ q → A q) (hE : Ev Z A s s.heap) : ∀ (N : Nat) (i : Nat) (lf : Nat) (fa : Nat → Int32) (H : Heap) (locs : List Loc) (ls : Array Slot), 3 - i < N → (i ≤ 3) → (lf = mn / 1000000000 ^ i) → (LimI fa (uu * (mn % 1000000000 ^ i))) → va_K D classes [(kU, .int), (kL, .int), (kW, .int)] s → va_P D classes [(h0, .inr (5, [.int (iZ (th)), .ref au, .ref al, .ref av, .ref ao, .ref ah, .ref ar, .ref ap, .int (iZ ((((t).length : Nat) : Int))), .int (bZ (ng = true)), .int (iZ (((me : Nat) : Int))), .long (lN (mf)), .int (iZ (((mb : Nat) : Int))), .int (iZ (((mm : Nat) : Int))), .long (lN (ms)), .int (iZ (mt)), .long (lN (mq)), .int (iZ (mz))])), (au, .inl (kU, 156, .inl fu)), (al, .inl (kL, 156, .inl fa)), (rw, .inl (kW, 1404, .inl fw))] H → va_D A [(h0, .inr (5, [.int (iZ (th)), .ref au, .ref al, .ref av, .ref ao, .ref ah, .ref ar, .ref ap, .int (iZ ((((t).length : Nat) : Int))), .int (bZ (ng = true)), .int (iZ (((me : Nat) : Int))), .long (lN (mf)), .int (iZ (((mb : Nat) : Int))), .int (iZ (((mm : Nat) : Int))), .long (lN (ms)), .int (iZ (mt)), .long (lN (mq)), .int (iZ (mz))])), (au, .inl (kU, 156, .inl fu)), (al, .inl (kL, 156, .inl fa)), (rw, .inl (kW, 1404, .inl fw))] → va_S A s.heap H locs → lv_has ls 12 [(0, .ref h0), (1, .ref rw), (4, .long (lN (lf))), (6, .int (iZ (((i : Nat) : Int))))] → W p l e ({ frames := 0, cells := 0, slots := 0, locals := 0 } : Room) s m args below meth c H locs 0 0 (MQ below (Qc_Mo_set D h0 th au al av ao ah ar ap t ng me mf mb mm ms mt mq mz kU fu kL fl rw kW fw uu mn A) args s 0 0 A) (F0 m 31 ls []) := by
  obtain ⟨hx, hb, hml, hown, hts, hr, hlocks⟩ := id C0
  intro N
  induction N with
  | zero => intro i lf fa H locs ls hN; exact absurd hN (Nat.not_lt_zero _)
  | succ N ih =>
    intro i lf fa H locs ls hN hi hlf hf hK hP hD hS hl
    refine lv_lload hx hb d_Mo_set_31 (lv_at hl 2 rfl) ?_
    refine lv_lconst (v := lN 0) hx hb d_Mo_set_33 rfl ?_
    refine nv_lcmp_le (tgt := 131) hx hb d_Mo_set_34 d_Mo_set_35 (by decide) (Nat.lt_of_le_of_lt (by rw [hlf]; exact Nat.div_le_self _ _) hmn) (by decide) (fun c34 => ?_) (fun c34 => ?_)
    · have hend : mn % 1000000000 ^ i = mn := Nat.mod_eq_of_lt (lt_of_div0 (pB_pos i) (by rw [← hlf]; omega))
      refine lv_iconst (v := iZ (0)) hx hb d_Mo_set_131 rfl ?_
      refine zv_top (y := iZ (((0 : Nat) : Int))) (rfl) ?_
      refine lv_istore (lv' := [(6, .int (iZ (((0 : Nat) : Int)))), (0, .ref h0), (1, .ref rw), (4, .long (lN (lf)))]) hx hb d_Mo_set_132 hl (by decide) rfl (fun ls hl => ?_)
      exact lp_Mo_set_134 h0 th au al av ao ah ar ap t ng me mf mb mm ms mt mq mz kU fu kL fl rw kW fw uu mn hU hmn hlt C0 hA hE (156 - 0 + 1) 0 fa fw _ _ _ (Nat.lt_succ_self _) (by omega) (by rw [hend, Nat.mul_comm] at hf; exact hf) (fun j h => absurd h (by omega)) (hK.sub [0, 1, 2] rfl) (hP.sub [0, 1, 2, 3] rfl) (hD.sub [0, 1, 2, 3] (by decide) rfl) hS (lv_sub hl [1, 2, 0] rfl)
    · have hi3 : i < 3 := set_i hmn (by rw [← hlf]; omega)
      refine lv_lload hx hb d_Mo_set_38 (lv_at hl 2 rfl) ?_
      refine lv_ldc2 (v := (1000000000)) hx hb hown (hts _ kw_317_) d_Mo_set_40 ?_
      refine nv_top (y := lN 1000000000) (by decide) ?_
      refine nv_lrem hx hb d_Mo_set_43 (Nat.lt_of_le_of_lt (by rw [hlf]; exact Nat.div_le_self _ _) hmn) (by decide) (by decide) ?_
      refine lv_lstore (lv' := [(7, .long (lN (lf % 1000000000))), (0, .ref h0), (1, .ref rw), (4, .long (lN (lf))), (6, .int (iZ (((i : Nat) : Int))))]) hx hb d_Mo_set_44 hl (by decide) rfl (fun ls hl => ?_)
      refine lv_lload hx hb d_Mo_set_46 (lv_at hl 3 rfl) ?_
      refine lv_ldc2 (v := (1000000000)) hx hb hown (hts _ kw_317_) d_Mo_set_48 ?_
      refine nv_top (y := lN 1000000000) (by decide) ?_
      refine nv_ldiv hx hb d_Mo_set_51 (Nat.lt_of_le_of_lt (by rw [hlf]; exact Nat.div_le_self _ _) hmn) (by decide) (by decide) ?_
      refine lv_lstore (lv' := [(4, .long (lN (lf / 1000000000))), (7, .long (lN (lf % 1000000000))), (0, .ref h0), (1, .ref rw), (6, .int (iZ (((i : Nat) : Int))))]) hx hb d_Mo_set_52 hl (by decide) rfl (fun ls hl => ?_)
      refine lv_lconst (v := lN 0) hx hb d_Mo_set_54 rfl ?_
      refine lv_lstore (lv' := [(9, .long (lN (0))), (4, .long (lN (lf / 1000000000))), (7, .long (lN (lf % 1000000000))), (0, .ref h0), (1, .ref rw), (6, .int (iZ (((i : Nat) : Int))))]) hx hb d_Mo_set_55 hl (by decide) rfl (fun ls hl => ?_)
      refine lv_iload hx hb d_Mo_set_57 (lv_at hl 5 rfl) ?_
      refine lv_istore (lv' := [(11, .int (iZ (((i : Nat) : Int)))), (9, .long (lN (0))), (4, .long (lN (lf / 1000000000))), (7, .long (lN (lf % 1000000000))), (0, .ref h0), (1, .ref rw), (6, .int (iZ (((i : Nat) : Int))))]) hx hb d_Mo_set_59 hl (by decide) rfl (fun ls hl => ?_)
      have hby : lf % 1000000000 < 1000000000 := Nat.mod_lt _ (by decide)
      refine lp_Mo_set_61 h0 th au al av ao ah ar ap t ng me mf mb mm ms mt mq mz kU fu kL fl rw kW fw uu mn hU hmn hlt C0 hA hE i (lf / 1000000000) (lf % 1000000000) (fun f3 H locs ls hf3 hK hP hD hS hl => ?_) (156 - i + 1) i 0 fa _ _ _ (Nat.lt_succ_self _) (by omega) (by assumption) (by rw [Nat.sub_self, Nat.pow_zero, Nat.mod_one, Nat.mul_zero, Nat.zero_mul, Nat.add_zero, Nat.div_eq_of_lt (Nat.mod_lt _ (pB_pos i))]) (fun j h => by rw [hf.1 j (by omega), set_low h]) (fun j _ h => hf.1 j h) (hK.sub [0, 1, 2] rfl) (hP.sub [0, 1, 2, 3] rfl) (hD.sub [0, 1, 2, 3] (by decide) rfl) hS (lv_sub hl [4, 5, 2, 6, 3, 1, 0] rfl)
      have hf3 : ∀ j, j < 156 → f3 j = iZ ((dg ((uu * (mn % 1000000000 ^ i)) + (lf % 1000000000) * uu * 1000000000 ^ i) j : Nat) : Int) := hf3
      refine lv_iinc (v := iZ (((i + 1 : Nat) : Int))) (lv' := [(6, .int (iZ (((i + 1 : Nat) : Int)))), (0, .ref h0), (1, .ref rw), (4, .long (lN ((lf / 1000000000))))]) hx hb d_Mo_set_125 hl (k := 3) rfl ((iZ_add _ _).trans (congrArg iZ (by omega))) (by decide) rfl (fun ls hl => ?_)
      refine lv_goto (tgt := 31) hx hb d_Mo_set_128 (by decide) ?_
      have eT : uu * (mn % 1000000000 ^ i) + (lf % 1000000000) * uu * 1000000000 ^ i = uu * (mn % 1000000000 ^ (i + 1)) := by rw [hlf]; exact set_T uu mn i
      exact ih (i + 1) (lf / 1000000000) f3 _ _ _ (by omega) (by omega) (by rw [hlf, Nat.div_div_eq_div_mul, ← Nat.pow_succ]) (by rw [← eT]; exact ⟨hf3, by rw [eT]; exact Nat.lt_of_le_of_lt (Nat.mul_le_mul_left _ (Nat.mod_le _ _)) (by rw [Nat.mul_comm]; exact hlt)⟩) (hK.sub [0, 1, 2] rfl) (hP.sub [0, 1, 2, 3] rfl) (hD.sub [0, 1, 2, 3] (by decide) rfl) hS (lv_sub hl [1, 2, 3, 0] rfl)
set_option maxHeartbeats 4000000 in
set_option maxRecDepth 100000 in
theorem lp_Mo_set_3 {p : Program} {l : Launch} {e : Env} {s : State} {m : MethodId} {args : Array Value} {below : List Frame} {meth : Method} {c : Code} {A : Nat → Prop} {D : va_G} {Z : Nat → Nat} (h0 : Nat) (th : Int) (au : Nat) (al : Nat) (av : Nat) (ao : Nat) (ah : Nat) (ar : Nat) (ap : Nat) (t : List Nat) (ng : Bool) (me : Nat) (mf : Nat) (mb : Nat) (mm : Nat) (ms : Nat) (mt : Int) (mq : Nat) (mz : Int) (kU : ClassId) (fu : Nat → Int32) (kL : ClassId) (fl : Nat → Int32) (rw : Nat) (kW : ClassId) (fw : Nat → Int32) (uu : Nat) (mn : Nat) (hU : LimI fu uu) (hmn : mn < 9223372036854775808) (hlt : mn * uu < 1000000000 ^ 156) (C0 : cxA p s m args meth c b_Mo_set 12 R_Mo none) (hA : ∀ q : Nat, s.heap.size ≤ q → A q) (hE : Ev Z A s s.heap) : ∀ (N : Nat) (k : Nat) (fa : Nat → Int32) (H : Heap) (locs : List Loc) (ls : Array Slot), 156 - k < N → (k ≤ 156) → (∀ j, j < k → fa j = iZ ((0 : Nat) : Int)) → va_K D classes [(kU, .int), (kL, .int), (kW, .int)] s → va_P D classes [(h0, .inr (5, [.int (iZ (th)), .ref au, .ref al, .ref av, .ref ao, .ref ah, .ref ar, .ref ap, .int (iZ ((((t).length : Nat) : Int))), .int (bZ (ng = true)), .int (iZ (((me : Nat) : Int))), .long (lN (mf)), .int (iZ (((mb : Nat) : Int))), .int (iZ (((mm : Nat) : Int))), .long (lN (ms)), .int (iZ (mt)), .long (lN (mq)), .int (iZ (mz))])), (au, .inl (kU, 156, .inl fu)), (al, .inl (kL, 156, .inl fa)), (rw, .inl (kW, 1404, .inl fw))] H → va_D A [(h0, .inr (5, [.int (iZ (th)), .ref au, .ref al, .ref av, .ref ao, .ref ah, .ref ar, .ref ap, .int (iZ ((((t).length : Nat) : Int))), .int (bZ (ng = true)), .int (iZ (((me : Nat) : Int))), .long (lN (mf)), .int (iZ (((mb : Nat) : Int))), .int (iZ (((mm : Nat) : Int))), .long (lN (ms)), .int (iZ (mt)), .long (lN (mq)), .int (iZ (mz))])), (au, .inl (kU, 156, .inl fu)), (al, .inl (kL, 156, .inl fa)), (rw, .inl (kW, 1404, .inl fw))] → va_S A s.heap H locs → lv_has ls 12 [(0, .ref h0), (1, .ref rw), (2, .long (lN (mn))), (4, .int (iZ (((k : Nat) : Int))))] → W p l e ({ frames := 0, cells := 0, slots := 0, locals := 0 } : Room) s m args below meth c H locs 0 0 (MQ below (Qc_Mo_set D h0 th au al av ao ah ar ap t ng me mf mb mm ms mt mq mz kU fu kL fl rw kW fw uu mn A) args s 0 0 A) (F0 m 3 ls []) := by
  obtain ⟨hx, hb, hml, hown, hts, hr, hlocks⟩ := id C0
  intro N
  induction N with
  | zero => intro k fa H locs ls hN; exact absurd hN (Nat.not_lt_zero _)
  | succ N ih =>
    intro k fa H locs ls hN hk hf hK hP hD hS hl
    refine lv_iload hx hb d_Mo_set_3 (lv_at hl 3 rfl) ?_
    refine lv_sipush (v := iZ (156)) hx hb d_Mo_set_5 (by decide) ?_
    refine zv_icmp_ge (tgt := 25) hx hb d_Mo_set_8 (by decide) (by omega) (by omega) (fun c8 => ?_) (fun c8 => ?_)
    · have ek : k = 156 := by omega
      refine lv_lload_n hx hb d_Mo_set_25 rfl (lv_at hl 2 rfl) ?_
      refine lv_lstore (lv' := [(4, .long (lN (mn))), (0, .ref h0), (1, .ref rw), (2, .long (lN (mn)))]) hx hb d_Mo_set_26 hl (by decide) rfl (fun ls hl => ?_)
      refine lv_iconst (v := iZ (0)) hx hb d_Mo_set_28 rfl ?_
      refine lv_istore (lv' := [(6, .int (iZ (0))), (4, .long (lN (mn))), (0, .ref h0), (1, .ref rw), (2, .long (lN (mn)))]) hx hb d_Mo_set_29 hl (by decide) rfl (fun ls hl => ?_)
      exact lp_Mo_set_31 h0 th au al av ao ah ar ap t ng me mf mb mm ms mt mq mz kU fu kL fl rw kW fw uu mn hU hmn hlt C0 hA hE (3 - 0 + 1) 0 mn fa _ _ _ (Nat.lt_succ_self _) (by omega) (by rw [Nat.pow_zero, Nat.div_one]) (⟨fun j h => by rw [Nat.pow_zero, Nat.mod_one, Nat.mul_zero, show dg 0 j = 0 from dg_big (pB_pos j)]; exact hf j (by omega), by rw [Nat.pow_zero, Nat.mod_one, Nat.mul_zero]; exact pB_pos _⟩) (hK.sub [0, 1, 2] rfl) (hP.sub [0, 1, 2, 3] rfl) (hD.sub [0, 1, 2, 3] (by decide) rfl) hS (lv_sub hl [2, 3, 1, 0] rfl)
    · refine lv_aload_n hx hb d_Mo_set_11 rfl (lv_at hl 0 rfl) ?_
      refine va_get (D := D) (ci := 5) (v := .ref al) (C := R_Mo) (T := F_Mo) (N := 18) hx hb hts i_Mo hown hK hP 0 rfl rfl 2 (by decide) (hts _ kw_298_) (fun _ h9 => h9) rfl d_Mo_set_12 ?_
      refine lv_iload hx hb d_Mo_set_15 (lv_at hl 3 rfl) ?_
      refine lv_iconst (v := iZ (0)) hx hb d_Mo_set_17 rfl ?_
      refine zv_top (y := iZ (((0 : Nat) : Int))) (rfl) ?_
      refine zv_iast hx hb hK hP hD hS 2 1 rfl rfl k (by omega) (by omega) (by decide) d_Mo_set_18 (fun H locs hP hD hS => ?_)
      have hP : va_P D classes [(h0, .inr (5, [.int (iZ (th)), .ref au, .ref al, .ref av, .ref ao, .ref ah, .ref ar, .ref ap, .int (iZ ((((t).length : Nat) : Int))), .int (bZ (ng = true)), .int (iZ (((me : Nat) : Int))), .long (lN (mf)), .int (iZ (((mb : Nat) : Int))), .int (iZ (((mm : Nat) : Int))), .long (lN (ms)), .int (iZ (mt)), .long (lN (mq)), .int (iZ (mz))])), (au, .inl (kU, 156, .inl fu)), (al, .inl (kL, 156, .inl (upd fa k (iZ (((0 : Nat) : Int)))))), (rw, .inl (kW, 1404, .inl fw))] H := hP
      have hD : va_D A [(h0, .inr (5, [.int (iZ (th)), .ref au, .ref al, .ref av, .ref ao, .ref ah, .ref ar, .ref ap, .int (iZ ((((t).length : Nat) : Int))), .int (bZ (ng = true)), .int (iZ (((me : Nat) : Int))), .long (lN (mf)), .int (iZ (((mb : Nat) : Int))), .int (iZ (((mm : Nat) : Int))), .long (lN (ms)), .int (iZ (mt)), .long (lN (mq)), .int (iZ (mz))])), (au, .inl (kU, 156, .inl fu)), (al, .inl (kL, 156, .inl (upd fa k (iZ (((0 : Nat) : Int)))))), (rw, .inl (kW, 1404, .inl fw))] := hD
      refine lv_iinc (v := iZ (((k + 1 : Nat) : Int))) (lv' := [(4, .int (iZ (((k + 1 : Nat) : Int)))), (0, .ref h0), (1, .ref rw), (2, .long (lN (mn)))]) hx hb d_Mo_set_19 hl (k := 3) rfl ((iZ_add _ _).trans (congrArg iZ (by omega))) (by decide) rfl (fun ls hl => ?_)
      refine lv_goto (tgt := 3) hx hb d_Mo_set_22 (by decide) ?_
      exact ih (k + 1) (upd fa k (iZ (((0 : Nat) : Int)))) _ _ _ (by omega) (by omega) (upd_up (F := fun _ => iZ ((0 : Nat) : Int)) hf rfl) (hK.sub [0, 1, 2] rfl) (hP.sub [0, 1, 2, 3] rfl) (hD.sub [0, 1, 2, 3] (by decide) rfl) hS (lv_sub hl [1, 2, 3, 0] rfl)
set_option maxHeartbeats 4000000 in
set_option maxRecDepth 100000 in
theorem c_Mo_set (l : Launch) (D : va_G) (Z : Nat → Nat) (hz9 : Nat) (h0 : Nat) (th : Int) (au : Nat) (al : Nat) (av : Nat) (ao : Nat) (ah : Nat) (ar : Nat) (ap : Nat) (t : List Nat) (ng : Bool) (me : Nat) (mf : Nat) (mb : Nat) (mm : Nat) (ms : Nat) (mt : Int) (mq : Nat) (mz : Int) (kU : ClassId) (fu : Nat → Int32) (kL : ClassId) (fl : Nat → Int32) (rw : Nat) (kW : ClassId) (fw : Nat → Int32) (uu : Nat) (mn : Nat) (hU : LimI fu uu) (hmn : mn < 9223372036854775808) (hlt : mn * uu < 1000000000 ^ 156) : Met l y_Mo_set (.code y_Mo_set b_Mo_set 12 none :: gT) ({ frames := 0, cells := 0, slots := 0, locals := 0 } : Room) (va_Pc [.ref h0, .ref rw, .long (lN (mn))] (cpre D Z [(h0, .inr (5, [.int (iZ (th)), .ref au, .ref al, .ref av, .ref ao, .ref ah, .ref ar, .ref ap, .int (iZ ((((t).length : Nat) : Int))), .int (bZ (ng = true)), .int (iZ (((me : Nat) : Int))), .long (lN (mf)), .int (iZ (((mb : Nat) : Int))), .int (iZ (((mm : Nat) : Int))), .long (lN (ms)), .int (iZ (mt)), .long (lN (mq)), .int (iZ (mz))])), (au, .inl (kU, 156, .inl fu)), (al, .inl (kL, 156, .inl fl)), (rw, .inl (kW, 1404, .inl fw))] [(kU, .int), (kL, .int), (kW, .int)] hz9)) (Qc_Mo_set D h0 th au al av ao ah ar ap t ng me mf mb mm ms mt mq mz kU fu kL fl rw kW fw uu mn (va_A [(h0, .inr (5, [.int (iZ (th)), .ref au, .ref al, .ref av, .ref ao, .ref ah, .ref ar, .ref ap, .int (iZ ((((t).length : Nat) : Int))), .int (bZ (ng = true)), .int (iZ (((me : Nat) : Int))), .long (lN (mf)), .int (iZ (((mb : Nat) : Int))), .int (iZ (((mm : Nat) : Int))), .long (lN (ms)), .int (iZ (mt)), .long (lN (mq)), .int (iZ (mz))])), (au, .inl (kU, 156, .inl fu)), (al, .inl (kL, 156, .inl fl)), (rw, .inl (kW, 1404, .inl fw))] hz9)) 0 0 (va_A [(h0, .inr (5, [.int (iZ (th)), .ref au, .ref al, .ref av, .ref ao, .ref ah, .ref ar, .ref ap, .int (iZ ((((t).length : Nat) : Int))), .int (bZ (ng = true)), .int (iZ (((me : Nat) : Int))), .long (lN (mf)), .int (iZ (((mb : Nat) : Int))), .int (iZ (((mm : Nat) : Int))), .long (lN (ms)), .int (iZ (mt)), .long (lN (mq)), .int (iZ (mz))])), (au, .inl (kU, 156, .inl fu)), (al, .inl (kL, 156, .inl fl)), (rw, .inl (kW, 1404, .inl fw))] hz9) := by
  refine met_go (Qf := Qc_Mo_set D h0 th au al av ao ah ar ap t ng me mf mb mm ms mt mq mz kU fu kL fl rw kW fw uu mn) (ff := fun A => A) (by decide) ?_
  intro p e s m below meth c A C0 hin hsz9 hA hE hK hP hD
  obtain ⟨hx, hb, hml, hown, hts, hr, hlocks⟩ := id C0
  have hS : va_S A s.heap s.heap [] := va_S.rf
  have hl := lv_entry [.ref h0, .ref rw, .long (lN (mn))] (n := 12) (Nat.le_of_ble_eq_true rfl)
  rw [lg_entry_eq]
  generalize (lg_sl [.ref h0, .ref rw, .long (lN (mn))] ++ List.replicate (12 - (lg_sl [.ref h0, .ref rw, .long (lN (mn))]).length) Slot.unset).toArray = ls at hl ⊢
  have hl : lv_has ls 12 [(0, .ref h0), (1, .ref rw), (2, .long (lN (mn)))] := hl
  refine lv_iconst (v := iZ (0)) hx hb d_Mo_set_0 rfl ?_
  refine lv_istore (lv' := [(4, .int (iZ (0))), (0, .ref h0), (1, .ref rw), (2, .long (lN (mn)))]) hx hb d_Mo_set_1 hl (by decide) rfl (fun ls hl => ?_)
  exact lp_Mo_set_3 h0 th au al av ao ah ar ap t ng me mf mb mm ms mt mq mz kU fu kL fl rw kW fw uu mn hU hmn hlt C0 hA hE (156 - 0 + 1) 0 fl _ _ _ (Nat.lt_succ_self _) (by omega) (fun j h => absurd h (Nat.not_lt_zero j)) (hK.sub [0, 1, 2] rfl) (hP.sub [0, 1, 2, 3] rfl) (hD.sub [0, 1, 2, 3] (by decide) rfl) hS (lv_sub hl [1, 2, 3, 0] rfl)
