theorem kw_401_ : Cond.constantLong R_Mo 178 (16777216) ∈ gT := gT_in 837 (by decide +kernel) (by decide +kernel)
theorem kw_402_ : Cond.constantLong R_Mo 180 (8388608) ∈ gT := gT_in 838 (by decide +kernel) (by decide +kernel)
theorem kw_403_ : Cond.constantLong R_Mo 176 (2139095040) ∈ gT := gT_in 836 (by decide +kernel) (by decide +kernel)
theorem kw_404_ : Cond.constantLong R_Mo 174 (2143289344) ∈ gT := gT_in 835 (by decide +kernel) (by decide +kernel)
theorem kw_405_ : Cond.constantLong R_Mo 172 (2147483648) ∈ gT := gT_in 834 (by decide +kernel) (by decide +kernel)
theorem d_Mo_narrowed_0 : decode b_Mo_narrowed 0 = .ok (.aload_n 0, 1) := by decide +kernel
theorem d_Mo_narrowed_1 : decode b_Mo_narrowed 1 = .ok (.iconst 0, 1) := by decide +kernel
theorem d_Mo_narrowed_2 : decode b_Mo_narrowed 2 = .ok (.putfield 31, 3) := by decide +kernel
theorem d_Mo_narrowed_5 : decode b_Mo_narrowed 5 = .ok (.aload_n 0, 1) := by decide +kernel
theorem d_Mo_narrowed_6 : decode b_Mo_narrowed 6 = .ok (.lload_n 1, 1) := by decide +kernel
theorem d_Mo_narrowed_7 : decode b_Mo_narrowed 7 = .ok (.iconst 0, 1) := by decide +kernel
theorem d_Mo_narrowed_8 : decode b_Mo_narrowed 8 = .ok (.invokevirtual 126, 3) := by decide +kernel
theorem d_Mo_narrowed_11 : decode b_Mo_narrowed 11 = .ok (.aload_n 0, 1) := by decide +kernel
theorem d_Mo_narrowed_12 : decode b_Mo_narrowed 12 = .ok (.getfield 41, 3) := by decide +kernel
theorem d_Mo_narrowed_15 : decode b_Mo_narrowed 15 = .ok (.ifCond .eq 9, 3) := by decide +kernel
theorem d_Mo_narrowed_18 : decode b_Mo_narrowed 18 = .ok (.ldc2_w 172, 3) := by decide +kernel
theorem d_Mo_narrowed_21 : decode b_Mo_narrowed 21 = .ok (.goto 4, 3) := by decide +kernel
theorem d_Mo_narrowed_24 : decode b_Mo_narrowed 24 = .ok (.lconst 0, 1) := by decide +kernel
theorem d_Mo_narrowed_25 : decode b_Mo_narrowed 25 = .ok (.lstore_n 3, 1) := by decide +kernel
theorem d_Mo_narrowed_26 : decode b_Mo_narrowed 26 = .ok (.aload_n 0, 1) := by decide +kernel
theorem d_Mo_narrowed_27 : decode b_Mo_narrowed 27 = .ok (.invokevirtual 130, 3) := by decide +kernel
theorem d_Mo_narrowed_30 : decode b_Mo_narrowed 30 = .ok (.ifCond .ne 24, 3) := by decide +kernel
theorem d_Mo_narrowed_33 : decode b_Mo_narrowed 33 = .ok (.aload_n 0, 1) := by decide +kernel
theorem d_Mo_narrowed_34 : decode b_Mo_narrowed 34 = .ok (.getfield 48, 3) := by decide +kernel
theorem d_Mo_narrowed_37 : decode b_Mo_narrowed 37 = .ok (.lconst 0, 1) := by decide +kernel
theorem d_Mo_narrowed_38 : decode b_Mo_narrowed 38 = .ok (.lcmp, 1) := by decide +kernel
theorem d_Mo_narrowed_39 : decode b_Mo_narrowed 39 = .ok (.ifCond .eq 9, 3) := by decide +kernel
theorem d_Mo_narrowed_42 : decode b_Mo_narrowed 42 = .ok (.ldc2_w 174, 3) := by decide +kernel
theorem d_Mo_narrowed_45 : decode b_Mo_narrowed 45 = .ok (.goto 8, 3) := by decide +kernel
theorem d_Mo_narrowed_48 : decode b_Mo_narrowed 48 = .ok (.lload_n 3, 1) := by decide +kernel
theorem d_Mo_narrowed_49 : decode b_Mo_narrowed 49 = .ok (.ldc2_w 176, 3) := by decide +kernel
theorem d_Mo_narrowed_52 : decode b_Mo_narrowed 52 = .ok (.lor, 1) := by decide +kernel
theorem d_Mo_narrowed_53 : decode b_Mo_narrowed 53 = .ok (.lreturn, 1) := by decide +kernel
theorem d_Mo_narrowed_54 : decode b_Mo_narrowed 54 = .ok (.aload_n 0, 1) := by decide +kernel
theorem d_Mo_narrowed_55 : decode b_Mo_narrowed 55 = .ok (.getfield 52, 3) := by decide +kernel
theorem d_Mo_narrowed_58 : decode b_Mo_narrowed 58 = .ok (.lstore 5, 2) := by decide +kernel
theorem d_Mo_narrowed_60 : decode b_Mo_narrowed 60 = .ok (.aload_n 0, 1) := by decide +kernel
theorem d_Mo_narrowed_61 : decode b_Mo_narrowed 61 = .ok (.getfield 55, 3) := by decide +kernel
theorem d_Mo_narrowed_64 : decode b_Mo_narrowed 64 = .ok (.istore 7, 2) := by decide +kernel
theorem d_Mo_narrowed_66 : decode b_Mo_narrowed 66 = .ok (.iconst 0, 1) := by decide +kernel
theorem d_Mo_narrowed_67 : decode b_Mo_narrowed 67 = .ok (.istore 8, 2) := by decide +kernel
theorem d_Mo_narrowed_69 : decode b_Mo_narrowed 69 = .ok (.iconst 0, 1) := by decide +kernel
theorem d_Mo_narrowed_70 : decode b_Mo_narrowed 70 = .ok (.istore 9, 2) := by decide +kernel
theorem d_Mo_narrowed_72 : decode b_Mo_narrowed 72 = .ok (.lload 5, 2) := by decide +kernel
theorem d_Mo_narrowed_74 : decode b_Mo_narrowed 74 = .ok (.ldc2_w 178, 3) := by decide +kernel
theorem d_Mo_narrowed_77 : decode b_Mo_narrowed 77 = .ok (.lcmp, 1) := by decide +kernel
theorem d_Mo_narrowed_78 : decode b_Mo_narrowed 78 = .ok (.ifCond .ge 11, 3) := by decide +kernel
theorem d_Mo_narrowed_81 : decode b_Mo_narrowed 81 = .ok (.iload 7, 2) := by decide +kernel
theorem d_Mo_narrowed_83 : decode b_Mo_narrowed 83 = .ok (.sipush (-149), 3) := by decide +kernel
theorem d_Mo_narrowed_86 : decode b_Mo_narrowed 86 = .ok (.if_icmp .ge 40, 3) := by decide +kernel
theorem d_Mo_narrowed_89 : decode b_Mo_narrowed 89 = .ok (.iload 8, 2) := by decide +kernel
theorem d_Mo_narrowed_91 : decode b_Mo_narrowed 91 = .ok (.ifCond .ne 9, 3) := by decide +kernel
theorem d_Mo_narrowed_94 : decode b_Mo_narrowed 94 = .ok (.iload 9, 2) := by decide +kernel
theorem d_Mo_narrowed_96 : decode b_Mo_narrowed 96 = .ok (.iconst 1, 1) := by decide +kernel
theorem d_Mo_narrowed_97 : decode b_Mo_narrowed 97 = .ok (.if_icmp .ne 7, 3) := by decide +kernel
theorem d_Mo_narrowed_100 : decode b_Mo_narrowed 100 = .ok (.iconst 1, 1) := by decide +kernel
theorem d_Mo_narrowed_101 : decode b_Mo_narrowed 101 = .ok (.goto 4, 3) := by decide +kernel
theorem d_Mo_narrowed_104 : decode b_Mo_narrowed 104 = .ok (.iconst 0, 1) := by decide +kernel
theorem d_Mo_narrowed_105 : decode b_Mo_narrowed 105 = .ok (.istore 8, 2) := by decide +kernel
theorem d_Mo_narrowed_107 : decode b_Mo_narrowed 107 = .ok (.lload 5, 2) := by decide +kernel
theorem d_Mo_narrowed_109 : decode b_Mo_narrowed 109 = .ok (.lconst 1, 1) := by decide +kernel
theorem d_Mo_narrowed_110 : decode b_Mo_narrowed 110 = .ok (.land, 1) := by decide +kernel
theorem d_Mo_narrowed_111 : decode b_Mo_narrowed 111 = .ok (.l2i, 1) := by decide +kernel
theorem d_Mo_narrowed_112 : decode b_Mo_narrowed 112 = .ok (.istore 9, 2) := by decide +kernel
theorem d_Mo_narrowed_114 : decode b_Mo_narrowed 114 = .ok (.lload 5, 2) := by decide +kernel
theorem d_Mo_narrowed_116 : decode b_Mo_narrowed 116 = .ok (.iconst 1, 1) := by decide +kernel
theorem d_Mo_narrowed_117 : decode b_Mo_narrowed 117 = .ok (.lshr, 1) := by decide +kernel
theorem d_Mo_narrowed_118 : decode b_Mo_narrowed 118 = .ok (.lstore 5, 2) := by decide +kernel
theorem d_Mo_narrowed_120 : decode b_Mo_narrowed 120 = .ok (.iinc 7 1, 3) := by decide +kernel
theorem d_Mo_narrowed_123 : decode b_Mo_narrowed 123 = .ok (.goto (-51), 3) := by decide +kernel
theorem d_Mo_narrowed_126 : decode b_Mo_narrowed 126 = .ok (.iload 9, 2) := by decide +kernel
theorem d_Mo_narrowed_128 : decode b_Mo_narrowed 128 = .ok (.iconst 1, 1) := by decide +kernel
theorem d_Mo_narrowed_129 : decode b_Mo_narrowed 129 = .ok (.if_icmp .ne 24, 3) := by decide +kernel
theorem d_Mo_narrowed_132 : decode b_Mo_narrowed 132 = .ok (.iload 8, 2) := by decide +kernel
theorem d_Mo_narrowed_134 : decode b_Mo_narrowed 134 = .ok (.ifCond .ne 12, 3) := by decide +kernel
theorem d_Mo_narrowed_137 : decode b_Mo_narrowed 137 = .ok (.lload 5, 2) := by decide +kernel
theorem d_Mo_narrowed_139 : decode b_Mo_narrowed 139 = .ok (.lconst 1, 1) := by decide +kernel
theorem d_Mo_narrowed_140 : decode b_Mo_narrowed 140 = .ok (.land, 1) := by decide +kernel
theorem d_Mo_narrowed_141 : decode b_Mo_narrowed 141 = .ok (.lconst 1, 1) := by decide +kernel
theorem d_Mo_narrowed_142 : decode b_Mo_narrowed 142 = .ok (.lcmp, 1) := by decide +kernel
theorem d_Mo_narrowed_143 : decode b_Mo_narrowed 143 = .ok (.ifCond .ne 10, 3) := by decide +kernel
theorem d_Mo_narrowed_146 : decode b_Mo_narrowed 146 = .ok (.lload 5, 2) := by decide +kernel
theorem d_Mo_narrowed_148 : decode b_Mo_narrowed 148 = .ok (.lconst 1, 1) := by decide +kernel
theorem d_Mo_narrowed_149 : decode b_Mo_narrowed 149 = .ok (.ladd, 1) := by decide +kernel
theorem d_Mo_narrowed_150 : decode b_Mo_narrowed 150 = .ok (.goto 5, 3) := by decide +kernel
theorem d_Mo_narrowed_153 : decode b_Mo_narrowed 153 = .ok (.lload 5, 2) := by decide +kernel
theorem d_Mo_narrowed_155 : decode b_Mo_narrowed 155 = .ok (.lstore 5, 2) := by decide +kernel
theorem d_Mo_narrowed_157 : decode b_Mo_narrowed 157 = .ok (.lload 5, 2) := by decide +kernel
theorem d_Mo_narrowed_159 : decode b_Mo_narrowed 159 = .ok (.lconst 0, 1) := by decide +kernel
theorem d_Mo_narrowed_160 : decode b_Mo_narrowed 160 = .ok (.lcmp, 1) := by decide +kernel
theorem d_Mo_narrowed_161 : decode b_Mo_narrowed 161 = .ok (.ifCond .eq 32, 3) := by decide +kernel
theorem d_Mo_narrowed_164 : decode b_Mo_narrowed 164 = .ok (.lload 5, 2) := by decide +kernel
theorem d_Mo_narrowed_166 : decode b_Mo_narrowed 166 = .ok (.ldc2_w 180, 3) := by decide +kernel
theorem d_Mo_narrowed_169 : decode b_Mo_narrowed 169 = .ok (.lcmp, 1) := by decide +kernel
theorem d_Mo_narrowed_170 : decode b_Mo_narrowed 170 = .ok (.ifCond .ge 23, 3) := by decide +kernel
theorem d_Mo_narrowed_173 : decode b_Mo_narrowed 173 = .ok (.iload 7, 2) := by decide +kernel
theorem d_Mo_narrowed_175 : decode b_Mo_narrowed 175 = .ok (.sipush (-149), 3) := by decide +kernel
theorem d_Mo_narrowed_178 : decode b_Mo_narrowed 178 = .ok (.if_icmp .le 15, 3) := by decide +kernel
theorem d_Mo_narrowed_181 : decode b_Mo_narrowed 181 = .ok (.lload 5, 2) := by decide +kernel
theorem d_Mo_narrowed_183 : decode b_Mo_narrowed 183 = .ok (.iconst 1, 1) := by decide +kernel
theorem d_Mo_narrowed_184 : decode b_Mo_narrowed 184 = .ok (.lshl, 1) := by decide +kernel
theorem d_Mo_narrowed_185 : decode b_Mo_narrowed 185 = .ok (.lstore 5, 2) := by decide +kernel
theorem d_Mo_narrowed_187 : decode b_Mo_narrowed 187 = .ok (.iinc 7 (-1), 3) := by decide +kernel
theorem d_Mo_narrowed_190 : decode b_Mo_narrowed 190 = .ok (.goto (-33), 3) := by decide +kernel
theorem d_Mo_narrowed_193 : decode b_Mo_narrowed 193 = .ok (.lload 5, 2) := by decide +kernel
theorem d_Mo_narrowed_195 : decode b_Mo_narrowed 195 = .ok (.ldc2_w 178, 3) := by decide +kernel
theorem d_Mo_narrowed_198 : decode b_Mo_narrowed 198 = .ok (.lcmp, 1) := by decide +kernel
theorem d_Mo_narrowed_199 : decode b_Mo_narrowed 199 = .ok (.ifCond .ne 12, 3) := by decide +kernel
theorem d_Mo_narrowed_202 : decode b_Mo_narrowed 202 = .ok (.lload 5, 2) := by decide +kernel
theorem d_Mo_narrowed_204 : decode b_Mo_narrowed 204 = .ok (.iconst 1, 1) := by decide +kernel
theorem d_Mo_narrowed_205 : decode b_Mo_narrowed 205 = .ok (.lshr, 1) := by decide +kernel
theorem d_Mo_narrowed_206 : decode b_Mo_narrowed 206 = .ok (.lstore 5, 2) := by decide +kernel
theorem d_Mo_narrowed_208 : decode b_Mo_narrowed 208 = .ok (.iinc 7 1, 3) := by decide +kernel
theorem d_Mo_narrowed_211 : decode b_Mo_narrowed 211 = .ok (.iload 7, 2) := by decide +kernel
theorem d_Mo_narrowed_213 : decode b_Mo_narrowed 213 = .ok (.bipush 104, 2) := by decide +kernel
theorem d_Mo_narrowed_215 : decode b_Mo_narrowed 215 = .ok (.if_icmp .le 9, 3) := by decide +kernel
theorem d_Mo_narrowed_218 : decode b_Mo_narrowed 218 = .ok (.lload_n 3, 1) := by decide +kernel
theorem d_Mo_narrowed_219 : decode b_Mo_narrowed 219 = .ok (.ldc2_w 176, 3) := by decide +kernel
theorem d_Mo_narrowed_222 : decode b_Mo_narrowed 222 = .ok (.lor, 1) := by decide +kernel
theorem d_Mo_narrowed_223 : decode b_Mo_narrowed 223 = .ok (.lreturn, 1) := by decide +kernel
theorem d_Mo_narrowed_224 : decode b_Mo_narrowed 224 = .ok (.lload_n 3, 1) := by decide +kernel
theorem d_Mo_narrowed_225 : decode b_Mo_narrowed 225 = .ok (.lload 5, 2) := by decide +kernel
theorem d_Mo_narrowed_227 : decode b_Mo_narrowed 227 = .ok (.ldc2_w 180, 3) := by decide +kernel
theorem d_Mo_narrowed_230 : decode b_Mo_narrowed 230 = .ok (.lcmp, 1) := by decide +kernel
theorem d_Mo_narrowed_231 : decode b_Mo_narrowed 231 = .ok (.ifCond .ge 8, 3) := by decide +kernel
theorem d_Mo_narrowed_234 : decode b_Mo_narrowed 234 = .ok (.lload 5, 2) := by decide +kernel
theorem d_Mo_narrowed_236 : decode b_Mo_narrowed 236 = .ok (.goto 20, 3) := by decide +kernel
theorem d_Mo_narrowed_239 : decode b_Mo_narrowed 239 = .ok (.iload 7, 2) := by decide +kernel
theorem d_Mo_narrowed_241 : decode b_Mo_narrowed 241 = .ok (.sipush 150, 3) := by decide +kernel
theorem d_Mo_narrowed_244 : decode b_Mo_narrowed 244 = .ok (.iadd, 1) := by decide +kernel
theorem d_Mo_narrowed_245 : decode b_Mo_narrowed 245 = .ok (.i2l, 1) := by decide +kernel
theorem d_Mo_narrowed_246 : decode b_Mo_narrowed 246 = .ok (.bipush 23, 2) := by decide +kernel
theorem d_Mo_narrowed_248 : decode b_Mo_narrowed 248 = .ok (.lshl, 1) := by decide +kernel
theorem d_Mo_narrowed_249 : decode b_Mo_narrowed 249 = .ok (.lload 5, 2) := by decide +kernel
theorem d_Mo_narrowed_251 : decode b_Mo_narrowed 251 = .ok (.ladd, 1) := by decide +kernel
theorem d_Mo_narrowed_252 : decode b_Mo_narrowed 252 = .ok (.ldc2_w 180, 3) := by decide +kernel
theorem d_Mo_narrowed_255 : decode b_Mo_narrowed 255 = .ok (.lsub, 1) := by decide +kernel
theorem d_Mo_narrowed_256 : decode b_Mo_narrowed 256 = .ok (.lor, 1) := by decide +kernel
theorem d_Mo_narrowed_257 : decode b_Mo_narrowed 257 = .ok (.lreturn, 1) := by decide +kernel
abbrev Qc_Mo_narrowed (D : va_G) (h0 : Nat) (th : Int) (au : Nat) (al : Nat) (av : Nat) (ao : Nat) (ah : Nat) (ar : Nat) (ap : Nat) (t : List Nat) (ng : Bool) (me : Nat) (mf : Nat) (mb : Nat) (mm : Nat) (ms : Nat) (mt : Int) (mq : Nat) (mz : Int) (b : Nat) (A : Nat → Prop) : Array Value → State → Outcome → State → Prop := va_Ql (fun (r : Int64) (u : Unit) => r = lN (narF b)) (fun (u : Unit) t9 => cpost D A [(h0, .inr (5, [.int (iZ (0)), .ref au, .ref al, .ref av, .ref ao, .ref ah, .ref ar, .ref ap, .int (iZ ((((t).length : Nat) : Int))), .int (bZ (fN b false = true)), .int (iZ (((fE b false : Nat) : Int))), .long (lN (fF b false)), .int (iZ (((fP false : Nat) : Int))), .int (iZ (((fMo false : Nat) : Int))), .long (lN (fM b false)), .int (iZ (fW b false)), .long (lN (mq)), .int (iZ (mz))]))] [] t9) A
set_option maxHeartbeats 4000000 in
set_option maxRecDepth 100000 in
theorem lp_Mo_narrowed_193 {p : Program} {l : Launch} {e : Env} {s : State} {m : MethodId} {args : Array Value} {below : List Frame} {meth : Method} {c : Code} {A : Nat → Prop} {D : va_G} {Z : Nat → Nat} (h0 : Nat) (th : Int) (au : Nat) (al : Nat) (av : Nat) (ao : Nat) (ah : Nat) (ar : Nat) (ap : Nat) (t : List Nat) (ng : Bool) (me : Nat) (mf : Nat) (mb : Nat) (mm : Nat) (ms : Nat) (mt : Int) (mq : Nat) (mz : Int) (b : Nat) (hb9 : b < 18446744073709551616) (C0 : cxA p s m args meth c b_Mo_narrowed 10 R_Mo (some .long)) (hA : ∀ q : Nat, s.heap.size ≤ q → A q) (hE : Ev Z A s s.heap) : ∀ (N : Nat) (i : Nat) (H : Heap) (locs : List Loc) (ls : Array Slot), 0 < N → (fSz b false < fI false) → (NarS b i) → (-149 ≤ fW b false + ((i : Nat) : Int) ∧ fW b false + ((i : Nat) : Int) ≤ 1901) → (hTE (fM b false) i ≤ 16777216) → va_K D classes [] s → va_P D classes [(h0, .inr (5, [.int (iZ (0)), .ref au, .ref al, .ref av, .ref ao, .ref ah, .ref ar, .ref ap, .int (iZ ((((t).length : Nat) : Int))), .int (bZ (fN b false = true)), .int (iZ (((fE b false : Nat) : Int))), .long (lN (fF b false)), .int (iZ (((fP false : Nat) : Int))), .int (iZ (((fMo false : Nat) : Int))), .long (lN (fM b false)), .int (iZ (fW b false)), .long (lN (mq)), .int (iZ (mz))]))] H → va_D A [(h0, .inr (5, [.int (iZ (0)), .ref au, .ref al, .ref av, .ref ao, .ref ah, .ref ar, .ref ap, .int (iZ ((((t).length : Nat) : Int))), .int (bZ (fN b false = true)), .int (iZ (((fE b false : Nat) : Int))), .long (lN (fF b false)), .int (iZ (((fP false : Nat) : Int))), .int (iZ (((fMo false : Nat) : Int))), .long (lN (fM b false)), .int (iZ (fW b false)), .long (lN (mq)), .int (iZ (mz))]))] → va_S A s.heap H locs → lv_has ls 10 [(0, .ref h0), (3, .long (lN (if b / fS false % 2 = 1 then fS true else 0))), (5, .long (lN (hTE (fM b false) i))), (7, .int (iZ (fW b false + ((i : Nat) : Int))))] → W p l e ({ frames := 1, cells := 0, slots := 0, locals := 23 } : Room) s m args below meth c H locs 0 0 (MQ below (Qc_Mo_narrowed D h0 th au al av ao ah ar ap t ng me mf mb mm ms mt mq mz b A) args s 0 0 A) (F0 m 193 ls []) := by
  obtain ⟨hx, hb, hml, hown, hts, hr, hlocks⟩ := id C0
  intro N
  induction N with
  | zero => intro i H locs ls hN; exact absurd hN (Nat.not_lt_zero _)
  | succ N ih =>
    intro i H locs ls hN hfin hs hkr hml hK hP hD hS hl
    have hfe := fE_lt b false
    have hmo := fMo_lt false
    have hff := fF_lt b false
    have hpp := fP_pow false
    have hfi := fin_iff b false
    obtain ⟨hs1, hs2⟩ := sz_facts b false
    have hfn := fN_iff b false
    have hmm := fM_lt b false
    have hsgl : (if b / fS false % 2 = 1 then fS true else 0) < 18446744073709551616 := by split <;> decide
    refine lv_lload hx hb d_Mo_narrowed_193 (lv_at hl 2 rfl) ?_
    refine lv_ldc2 (v := (16777216)) hx hb hown (hts _ kw_401_) d_Mo_narrowed_195 ?_
    refine nv_top (y := lN 16777216) (by decide) ?_
    refine nv_lcmp_ne (tgt := 211) hx hb d_Mo_narrowed_198 d_Mo_narrowed_199 (by decide) (by omega) (by decide) (fun c198 => ?_) (fun c198 => ?_)
    · refine lv_iload hx hb d_Mo_narrowed_211 (lv_at hl 3 rfl) ?_
      refine lv_bipush (v := iZ (104)) hx hb d_Mo_narrowed_213 (by decide) ?_
      refine zv_icmp_le (tgt := 224) hx hb d_Mo_narrowed_215 (by decide) (by omega) (by omega) (fun c215 => ?_) (fun c215 => ?_)
      · refine lv_lload_n hx hb d_Mo_narrowed_224 rfl (lv_at hl 1 rfl) ?_
        refine lv_lload hx hb d_Mo_narrowed_225 (lv_at hl 2 rfl) ?_
        refine lv_ldc2 (v := (8388608)) hx hb hown (hts _ kw_402_) d_Mo_narrowed_227 ?_
        refine nv_top (y := lN 8388608) (by decide) ?_
        refine nv_lcmp_ge (tgt := 239) hx hb d_Mo_narrowed_230 d_Mo_narrowed_231 (by decide) (by omega) (by decide) (fun c230 => ?_) (fun c230 => ?_)
        · refine lv_iload hx hb d_Mo_narrowed_239 (lv_at hl 3 rfl) ?_
          refine lv_sipush (v := iZ (150)) hx hb d_Mo_narrowed_241 (by decide) ?_
          obtain ⟨kk, hkk⟩ : ∃ kk : Nat, ((kk : Nat) : Int) = fW b false + ((i : Nat) : Int) + 150 := ⟨(fW b false + ((i : Nat) : Int) + 150).toNat, by omega⟩
          have e23 : (2 : Nat) ^ 23 = 8388608 := rfl
          refine zv_iadd hx hb d_Mo_narrowed_244 ?_
          refine zv_top (y := iZ (((kk : Nat) : Int))) (congrArg iZ hkk.symm) ?_
          refine nv_i2l (n := kk) hx hb d_Mo_narrowed_245 (rfl) (by omega) ?_
          refine lv_bipush (v := iZ (23)) hx hb d_Mo_narrowed_246 (by decide) ?_
          refine nv_lshl (k := 23) hx hb d_Mo_narrowed_248 (rfl) (by decide) ?_
          refine lv_lload hx hb d_Mo_narrowed_249 (lv_at hl 2 rfl) ?_
          refine nv_ladd hx hb d_Mo_narrowed_251 ?_
          refine lv_ldc2 (v := (8388608)) hx hb hown (hts _ kw_402_) d_Mo_narrowed_252 ?_
          refine nv_top (y := lN 8388608) (by decide) ?_
          refine nv_lsub hx hb d_Mo_narrowed_255 (by omega) ?_
          have hend := nar_end (x := ((kk * 2 ^ 23) + (hTE (fM b false) i)) - 8388608) hfin hs ⟨fW b false + ((i : Nat) : Int), by rw [if_neg c198]; omega, fun z => absurd z (by omega), fun _ z => absurd z (by omega), fun _ _ => by rw [if_neg c198]; omega⟩
          refine nv_lor hx hb d_Mo_narrowed_256 (hsgl) (Nat.lt_trans hend.2 (by decide)) ?_
          refine nv_top (y := lN (narF b)) (congrArg lN hend.1) ?_
          exact ew_l () hx hb hr hlocks d_Mo_narrowed_257 (show lN (narF b) = lN (narF b) from rfl) (hP.sub (ws' := [(h0, .inr (5, [.int (iZ (0)), .ref au, .ref al, .ref av, .ref ao, .ref ah, .ref ar, .ref ap, .int (iZ ((((t).length : Nat) : Int))), .int (bZ (fN b false = true)), .int (iZ (((fE b false : Nat) : Int))), .long (lN (fF b false)), .int (iZ (((fP false : Nat) : Int))), .int (iZ (((fMo false : Nat) : Int))), .long (lN (fM b false)), .int (iZ (fW b false)), .long (lN (mq)), .int (iZ (mz))]))]) [0] rfl) (hD.sub (ws' := [(h0, .inr (5, [.int (iZ (0)), .ref au, .ref al, .ref av, .ref ao, .ref ah, .ref ar, .ref ap, .int (iZ ((((t).length : Nat) : Int))), .int (bZ (fN b false = true)), .int (iZ (((fE b false : Nat) : Int))), .long (lN (fF b false)), .int (iZ (((fP false : Nat) : Int))), .int (iZ (((fMo false : Nat) : Int))), .long (lN (fM b false)), .int (iZ (fW b false)), .long (lN (mq)), .int (iZ (mz))]))]) [0] (by decide) rfl) (hK.sub (tys' := []) [] rfl) hS (Nat.le_of_ble_eq_true rfl) (Nat.le_of_ble_eq_true rfl)
        · refine lv_lload hx hb d_Mo_narrowed_234 (lv_at hl 2 rfl) ?_
          refine lv_goto (tgt := 256) hx hb d_Mo_narrowed_236 (by decide) ?_
          have hend := nar_end (x := hTE (fM b false) i) hfin hs ⟨fW b false + ((i : Nat) : Int), by rw [if_neg c198]; omega, fun z => absurd z (by omega), fun _ _ => rfl, fun _ z => absurd (by omega) z⟩
          refine nv_lor hx hb d_Mo_narrowed_256 (hsgl) (Nat.lt_trans hend.2 (by decide)) ?_
          refine nv_top (y := lN (narF b)) (congrArg lN hend.1) ?_
          exact ew_l () hx hb hr hlocks d_Mo_narrowed_257 (show lN (narF b) = lN (narF b) from rfl) (hP.sub (ws' := [(h0, .inr (5, [.int (iZ (0)), .ref au, .ref al, .ref av, .ref ao, .ref ah, .ref ar, .ref ap, .int (iZ ((((t).length : Nat) : Int))), .int (bZ (fN b false = true)), .int (iZ (((fE b false : Nat) : Int))), .long (lN (fF b false)), .int (iZ (((fP false : Nat) : Int))), .int (iZ (((fMo false : Nat) : Int))), .long (lN (fM b false)), .int (iZ (fW b false)), .long (lN (mq)), .int (iZ (mz))]))]) [0] rfl) (hD.sub (ws' := [(h0, .inr (5, [.int (iZ (0)), .ref au, .ref al, .ref av, .ref ao, .ref ah, .ref ar, .ref ap, .int (iZ ((((t).length : Nat) : Int))), .int (bZ (fN b false = true)), .int (iZ (((fE b false : Nat) : Int))), .long (lN (fF b false)), .int (iZ (((fP false : Nat) : Int))), .int (iZ (((fMo false : Nat) : Int))), .long (lN (fM b false)), .int (iZ (fW b false)), .long (lN (mq)), .int (iZ (mz))]))]) [0] (by decide) rfl) (hK.sub (tys' := []) [] rfl) hS (Nat.le_of_ble_eq_true rfl) (Nat.le_of_ble_eq_true rfl)
      · refine lv_lload_n hx hb d_Mo_narrowed_218 rfl (lv_at hl 1 rfl) ?_
        refine lv_ldc2 (v := (2139095040)) hx hb hown (hts _ kw_403_) d_Mo_narrowed_219 ?_
        refine nv_top (y := lN 2139095040) (by decide) ?_
        have hend := nar_end (x := 2139095040) hfin hs ⟨fW b false + ((i : Nat) : Int), by rw [if_neg c198]; omega, fun _ => rfl, fun z => absurd (show 104 < fW b false + ((i : Nat) : Int) by omega) z, fun z => absurd (show 104 < fW b false + ((i : Nat) : Int) by omega) z⟩
        refine nv_lor hx hb d_Mo_narrowed_222 (hsgl) (by decide) ?_
        refine nv_top (y := lN (narF b)) (congrArg lN hend.1) ?_
        exact ew_l () hx hb hr hlocks d_Mo_narrowed_223 (show lN (narF b) = lN (narF b) from rfl) (hP.sub (ws' := [(h0, .inr (5, [.int (iZ (0)), .ref au, .ref al, .ref av, .ref ao, .ref ah, .ref ar, .ref ap, .int (iZ ((((t).length : Nat) : Int))), .int (bZ (fN b false = true)), .int (iZ (((fE b false : Nat) : Int))), .long (lN (fF b false)), .int (iZ (((fP false : Nat) : Int))), .int (iZ (((fMo false : Nat) : Int))), .long (lN (fM b false)), .int (iZ (fW b false)), .long (lN (mq)), .int (iZ (mz))]))]) [0] rfl) (hD.sub (ws' := [(h0, .inr (5, [.int (iZ (0)), .ref au, .ref al, .ref av, .ref ao, .ref ah, .ref ar, .ref ap, .int (iZ ((((t).length : Nat) : Int))), .int (bZ (fN b false = true)), .int (iZ (((fE b false : Nat) : Int))), .long (lN (fF b false)), .int (iZ (((fP false : Nat) : Int))), .int (iZ (((fMo false : Nat) : Int))), .long (lN (fM b false)), .int (iZ (fW b false)), .long (lN (mq)), .int (iZ (mz))]))]) [0] (by decide) rfl) (hK.sub (tys' := []) [] rfl) hS (Nat.le_of_ble_eq_true rfl) (Nat.le_of_ble_eq_true rfl)
    · refine lv_lload hx hb d_Mo_narrowed_202 (lv_at hl 2 rfl) ?_
      refine lv_iconst (v := iZ (1)) hx hb d_Mo_narrowed_204 rfl ?_
      refine nv_lshr (k := 1) hx hb d_Mo_narrowed_205 (rfl) (by omega) (by decide) ?_
      refine nv_top (y := lN (8388608)) (congrArg lN (by omega)) ?_
      refine lv_lstore (lv' := [(5, .long (lN (8388608))), (0, .ref h0), (3, .long (lN (if b / fS false % 2 = 1 then fS true else 0))), (7, .int (iZ (fW b false + ((i : Nat) : Int))))]) hx hb d_Mo_narrowed_206 hl (by decide) rfl (fun ls hl => ?_)
      refine lv_iinc (v := iZ (fW b false + ((i : Nat) : Int) + 1)) (lv' := [(7, .int (iZ (fW b false + ((i : Nat) : Int) + 1))), (5, .long (lN (8388608))), (0, .ref h0), (3, .long (lN (if b / fS false % 2 = 1 then fS true else 0)))]) hx hb d_Mo_narrowed_208 hl (k := 3) rfl ((iZ_add _ _).trans (congrArg iZ (by omega))) (by decide) rfl (fun ls hl => ?_)
      refine lv_iload hx hb d_Mo_narrowed_211 (lv_at hl 0 rfl) ?_
      refine lv_bipush (v := iZ (104)) hx hb d_Mo_narrowed_213 (by decide) ?_
      refine zv_icmp_le (tgt := 224) hx hb d_Mo_narrowed_215 (by decide) (by omega) (by omega) (fun c215 => ?_) (fun c215 => ?_)
      · refine lv_lload_n hx hb d_Mo_narrowed_224 rfl (lv_at hl 3 rfl) ?_
        refine lv_lload hx hb d_Mo_narrowed_225 (lv_at hl 1 rfl) ?_
        refine lv_ldc2 (v := (8388608)) hx hb hown (hts _ kw_402_) d_Mo_narrowed_227 ?_
        refine nv_top (y := lN 8388608) (by decide) ?_
        refine nv_lcmp_ge (tgt := 239) hx hb d_Mo_narrowed_230 d_Mo_narrowed_231 (by decide) (by omega) (by decide) (fun c230 => ?_) (fun c230 => ?_)
        · refine lv_iload hx hb d_Mo_narrowed_239 (lv_at hl 0 rfl) ?_
          refine lv_sipush (v := iZ (150)) hx hb d_Mo_narrowed_241 (by decide) ?_
          obtain ⟨kk, hkk⟩ : ∃ kk : Nat, ((kk : Nat) : Int) = fW b false + ((i : Nat) : Int) + 1 + 150 := ⟨(fW b false + ((i : Nat) : Int) + 1 + 150).toNat, by omega⟩
          have e23 : (2 : Nat) ^ 23 = 8388608 := rfl
          refine zv_iadd hx hb d_Mo_narrowed_244 ?_
          refine zv_top (y := iZ (((kk : Nat) : Int))) (congrArg iZ hkk.symm) ?_
          refine nv_i2l (n := kk) hx hb d_Mo_narrowed_245 (rfl) (by omega) ?_
          refine lv_bipush (v := iZ (23)) hx hb d_Mo_narrowed_246 (by decide) ?_
          refine nv_lshl (k := 23) hx hb d_Mo_narrowed_248 (rfl) (by decide) ?_
          refine lv_lload hx hb d_Mo_narrowed_249 (lv_at hl 1 rfl) ?_
          refine nv_ladd hx hb d_Mo_narrowed_251 ?_
          refine lv_ldc2 (v := (8388608)) hx hb hown (hts _ kw_402_) d_Mo_narrowed_252 ?_
          refine nv_top (y := lN 8388608) (by decide) ?_
          refine nv_lsub hx hb d_Mo_narrowed_255 (by omega) ?_
          have hend := nar_end (x := ((kk * 2 ^ 23) + 8388608) - 8388608) hfin hs ⟨fW b false + ((i : Nat) : Int) + 1, by rw [if_pos c198], fun z => absurd z (by omega), fun _ z => absurd z (by omega), fun _ _ => by rw [if_pos c198]; omega⟩
          refine nv_lor hx hb d_Mo_narrowed_256 (hsgl) (Nat.lt_trans hend.2 (by decide)) ?_
          refine nv_top (y := lN (narF b)) (congrArg lN hend.1) ?_
          exact ew_l () hx hb hr hlocks d_Mo_narrowed_257 (show lN (narF b) = lN (narF b) from rfl) (hP.sub (ws' := [(h0, .inr (5, [.int (iZ (0)), .ref au, .ref al, .ref av, .ref ao, .ref ah, .ref ar, .ref ap, .int (iZ ((((t).length : Nat) : Int))), .int (bZ (fN b false = true)), .int (iZ (((fE b false : Nat) : Int))), .long (lN (fF b false)), .int (iZ (((fP false : Nat) : Int))), .int (iZ (((fMo false : Nat) : Int))), .long (lN (fM b false)), .int (iZ (fW b false)), .long (lN (mq)), .int (iZ (mz))]))]) [0] rfl) (hD.sub (ws' := [(h0, .inr (5, [.int (iZ (0)), .ref au, .ref al, .ref av, .ref ao, .ref ah, .ref ar, .ref ap, .int (iZ ((((t).length : Nat) : Int))), .int (bZ (fN b false = true)), .int (iZ (((fE b false : Nat) : Int))), .long (lN (fF b false)), .int (iZ (((fP false : Nat) : Int))), .int (iZ (((fMo false : Nat) : Int))), .long (lN (fM b false)), .int (iZ (fW b false)), .long (lN (mq)), .int (iZ (mz))]))]) [0] (by decide) rfl) (hK.sub (tys' := []) [] rfl) hS (Nat.le_of_ble_eq_true rfl) (Nat.le_of_ble_eq_true rfl)
        · refine lv_lload hx hb d_Mo_narrowed_234 (lv_at hl 1 rfl) ?_
          refine lv_goto (tgt := 256) hx hb d_Mo_narrowed_236 (by decide) ?_
          have hend : (if b / fS false % 2 = 1 then fS true else 0) ||| 8388608 = narF b ∧ 8388608 < 2147483648 := absurd (Nat.le_refl _) c230
          refine nv_lor hx hb d_Mo_narrowed_256 (hsgl) (Nat.lt_trans hend.2 (by decide)) ?_
          refine nv_top (y := lN (narF b)) (congrArg lN hend.1) ?_
          exact ew_l () hx hb hr hlocks d_Mo_narrowed_257 (show lN (narF b) = lN (narF b) from rfl) (hP.sub (ws' := [(h0, .inr (5, [.int (iZ (0)), .ref au, .ref al, .ref av, .ref ao, .ref ah, .ref ar, .ref ap, .int (iZ ((((t).length : Nat) : Int))), .int (bZ (fN b false = true)), .int (iZ (((fE b false : Nat) : Int))), .long (lN (fF b false)), .int (iZ (((fP false : Nat) : Int))), .int (iZ (((fMo false : Nat) : Int))), .long (lN (fM b false)), .int (iZ (fW b false)), .long (lN (mq)), .int (iZ (mz))]))]) [0] rfl) (hD.sub (ws' := [(h0, .inr (5, [.int (iZ (0)), .ref au, .ref al, .ref av, .ref ao, .ref ah, .ref ar, .ref ap, .int (iZ ((((t).length : Nat) : Int))), .int (bZ (fN b false = true)), .int (iZ (((fE b false : Nat) : Int))), .long (lN (fF b false)), .int (iZ (((fP false : Nat) : Int))), .int (iZ (((fMo false : Nat) : Int))), .long (lN (fM b false)), .int (iZ (fW b false)), .long (lN (mq)), .int (iZ (mz))]))]) [0] (by decide) rfl) (hK.sub (tys' := []) [] rfl) hS (Nat.le_of_ble_eq_true rfl) (Nat.le_of_ble_eq_true rfl)
      · refine lv_lload_n hx hb d_Mo_narrowed_218 rfl (lv_at hl 3 rfl) ?_
        refine lv_ldc2 (v := (2139095040)) hx hb hown (hts _ kw_403_) d_Mo_narrowed_219 ?_
        refine nv_top (y := lN 2139095040) (by decide) ?_
        have hend := nar_end (x := 2139095040) hfin hs ⟨fW b false + ((i : Nat) : Int) + 1, by rw [if_pos c198], fun _ => rfl, fun z => absurd (show 104 < fW b false + ((i : Nat) : Int) + 1 by omega) z, fun z => absurd (show 104 < fW b false + ((i : Nat) : Int) + 1 by omega) z⟩
        refine nv_lor hx hb d_Mo_narrowed_222 (hsgl) (by decide) ?_
        refine nv_top (y := lN (narF b)) (congrArg lN hend.1) ?_
        exact ew_l () hx hb hr hlocks d_Mo_narrowed_223 (show lN (narF b) = lN (narF b) from rfl) (hP.sub (ws' := [(h0, .inr (5, [.int (iZ (0)), .ref au, .ref al, .ref av, .ref ao, .ref ah, .ref ar, .ref ap, .int (iZ ((((t).length : Nat) : Int))), .int (bZ (fN b false = true)), .int (iZ (((fE b false : Nat) : Int))), .long (lN (fF b false)), .int (iZ (((fP false : Nat) : Int))), .int (iZ (((fMo false : Nat) : Int))), .long (lN (fM b false)), .int (iZ (fW b false)), .long (lN (mq)), .int (iZ (mz))]))]) [0] rfl) (hD.sub (ws' := [(h0, .inr (5, [.int (iZ (0)), .ref au, .ref al, .ref av, .ref ao, .ref ah, .ref ar, .ref ap, .int (iZ ((((t).length : Nat) : Int))), .int (bZ (fN b false = true)), .int (iZ (((fE b false : Nat) : Int))), .long (lN (fF b false)), .int (iZ (((fP false : Nat) : Int))), .int (iZ (((fMo false : Nat) : Int))), .long (lN (fM b false)), .int (iZ (fW b false)), .long (lN (mq)), .int (iZ (mz))]))]) [0] (by decide) rfl) (hK.sub (tys' := []) [] rfl) hS (Nat.le_of_ble_eq_true rfl) (Nat.le_of_ble_eq_true rfl)
set_option maxHeartbeats 4000000 in
set_option maxRecDepth 100000 in
theorem lp_Mo_narrowed_155 {p : Program} {l : Launch} {e : Env} {s : State} {m : MethodId} {args : Array Value} {below : List Frame} {meth : Method} {c : Code} {A : Nat → Prop} {D : va_G} {Z : Nat → Nat} (h0 : Nat) (th : Int) (au : Nat) (al : Nat) (av : Nat) (ao : Nat) (ah : Nat) (ar : Nat) (ap : Nat) (t : List Nat) (ng : Bool) (me : Nat) (mf : Nat) (mb : Nat) (mm : Nat) (ms : Nat) (mt : Int) (mq : Nat) (mz : Int) (b : Nat) (hb9 : b < 18446744073709551616) (C0 : cxA p s m args meth c b_Mo_narrowed 10 R_Mo (some .long)) (hA : ∀ q : Nat, s.heap.size ≤ q → A q) (hE : Ev Z A s s.heap) : ∀ (N : Nat) (i : Nat) (H : Heap) (locs : List Loc) (ls : Array Slot), 0 < N → (fSz b false < fI false) → (fM b false / 2 ^ i < 16777216) → (-149 ≤ fW b false + ((i : Nat) : Int)) → (i = 0 ∨ 16777216 ≤ fM b false / 2 ^ (i - 1) ∨ fW b false + ((i : Nat) : Int) - 1 < -149) → va_K D classes [] s → va_P D classes [(h0, .inr (5, [.int (iZ (0)), .ref au, .ref al, .ref av, .ref ao, .ref ah, .ref ar, .ref ap, .int (iZ ((((t).length : Nat) : Int))), .int (bZ (fN b false = true)), .int (iZ (((fE b false : Nat) : Int))), .long (lN (fF b false)), .int (iZ (((fP false : Nat) : Int))), .int (iZ (((fMo false : Nat) : Int))), .long (lN (fM b false)), .int (iZ (fW b false)), .long (lN (mq)), .int (iZ (mz))]))] H → va_D A [(h0, .inr (5, [.int (iZ (0)), .ref au, .ref al, .ref av, .ref ao, .ref ah, .ref ar, .ref ap, .int (iZ ((((t).length : Nat) : Int))), .int (bZ (fN b false = true)), .int (iZ (((fE b false : Nat) : Int))), .long (lN (fF b false)), .int (iZ (((fP false : Nat) : Int))), .int (iZ (((fMo false : Nat) : Int))), .long (lN (fM b false)), .int (iZ (fW b false)), .long (lN (mq)), .int (iZ (mz))]))] → va_S A s.heap H locs → lv_has ls 10 [(0, .ref h0), (3, .long (lN (if b / fS false % 2 = 1 then fS true else 0))), (7, .int (iZ (fW b false + ((i : Nat) : Int))))] → W p l e ({ frames := 1, cells := 0, slots := 0, locals := 23 } : Room) s m args below meth c H locs 0 0 (MQ below (Qc_Mo_narrowed D h0 th au al av ao ah ar ap t ng me mf mb mm ms mt mq mz b A) args s 0 0 A) (F0 m 155 ls [.long (lN (hTE (fM b false) i))]) := by
  obtain ⟨hx, hb, hml, hown, hts, hr, hlocks⟩ := id C0
  intro N
  induction N with
  | zero => intro i H locs ls hN; exact absurd hN (Nat.not_lt_zero _)
  | succ N ih =>
    intro i H locs ls hN hfin h1 h2 h3 hK hP hD hS hl
    have hfe := fE_lt b false
    have hmo := fMo_lt false
    have hff := fF_lt b false
    have hpp := fP_pow false
    have hfi := fin_iff b false
    obtain ⟨hs1, hs2⟩ := sz_facts b false
    have hfn := fN_iff b false
    have hmm := fM_lt b false
    have hsgl : (if b / fS false % 2 = 1 then fS true else 0) < 18446744073709551616 := by split <;> decide
    obtain ⟨hi0, hs⟩ := nar_shape hfin h1 h2 h3
    have hs : NarS b i := hs
    have hfw := fW_fin hfin
    have hml : hTE (fM b false) i ≤ 16777216 := by rcases hs with q | q; exact q.2.2.2.1; exact Nat.le_trans q.2.2.1 (by decide)
    have hkr : -149 ≤ fW b false + ((i : Nat) : Int) ∧ fW b false + ((i : Nat) : Int) ≤ 1901 := by rcases hs with q | q; omega; omega
    have hno : hTE (fM b false) i < 8388608 → fW b false + ((i : Nat) : Int) ≤ -149 := fun z => by rcases hs with q | q; omega; omega
    refine lv_lstore (lv' := [(5, .long (lN (hTE (fM b false) i))), (0, .ref h0), (3, .long (lN (if b / fS false % 2 = 1 then fS true else 0))), (7, .int (iZ (fW b false + ((i : Nat) : Int))))]) hx hb d_Mo_narrowed_155 hl (by decide) rfl (fun ls hl => ?_)
    refine lv_lload hx hb d_Mo_narrowed_157 (lv_at hl 0 rfl) ?_
    refine lv_lconst (v := lN 0) hx hb d_Mo_narrowed_159 rfl ?_
    refine nv_lcmp_eq (tgt := 193) hx hb d_Mo_narrowed_160 d_Mo_narrowed_161 (by decide) (by omega) (by decide) (fun c160 => ?_) (fun c160 => ?_)
    · exact lp_Mo_narrowed_193 h0 th au al av ao ah ar ap t ng me mf mb mm ms mt mq mz b hb9 C0 hA hE (0 + 1) i _ _ _ (Nat.lt_succ_self _) (hfin) (hs) (hkr) (hml) (hK.sub [] rfl) (hP.sub [0] rfl) (hD.sub [0] (by decide) rfl) hS (lv_sub hl [1, 2, 0, 3] rfl)
    · refine lv_lload hx hb d_Mo_narrowed_164 (lv_at hl 0 rfl) ?_
      refine lv_ldc2 (v := (8388608)) hx hb hown (hts _ kw_402_) d_Mo_narrowed_166 ?_
      refine nv_top (y := lN 8388608) (by decide) ?_
      refine nv_lcmp_ge (tgt := 193) hx hb d_Mo_narrowed_169 d_Mo_narrowed_170 (by decide) (by omega) (by decide) (fun c169 => ?_) (fun c169 => ?_)
      · exact lp_Mo_narrowed_193 h0 th au al av ao ah ar ap t ng me mf mb mm ms mt mq mz b hb9 C0 hA hE (0 + 1) i _ _ _ (Nat.lt_succ_self _) (hfin) (hs) (hkr) (hml) (hK.sub [] rfl) (hP.sub [0] rfl) (hD.sub [0] (by decide) rfl) hS (lv_sub hl [1, 2, 0, 3] rfl)
      · refine lv_iload hx hb d_Mo_narrowed_173 (lv_at hl 3 rfl) ?_
        refine lv_sipush (v := iZ (-149)) hx hb d_Mo_narrowed_175 (by decide) ?_
        refine zv_icmp_le (tgt := 193) hx hb d_Mo_narrowed_178 (by decide) (by omega) (by omega) (fun c178 => ?_) (fun c178 => absurd c178 (fun z => z (hno (by omega))))
        exact lp_Mo_narrowed_193 h0 th au al av ao ah ar ap t ng me mf mb mm ms mt mq mz b hb9 C0 hA hE (0 + 1) i _ _ _ (Nat.lt_succ_self _) (hfin) (hs) (hkr) (hml) (hK.sub [] rfl) (hP.sub [0] rfl) (hD.sub [0] (by decide) rfl) hS (lv_sub hl [1, 2, 0, 3] rfl)
set_option maxHeartbeats 4000000 in
set_option maxRecDepth 100000 in
theorem lp_Mo_narrowed_72 {p : Program} {l : Launch} {e : Env} {s : State} {m : MethodId} {args : Array Value} {below : List Frame} {meth : Method} {c : Code} {A : Nat → Prop} {D : va_G} {Z : Nat → Nat} (h0 : Nat) (th : Int) (au : Nat) (al : Nat) (av : Nat) (ao : Nat) (ah : Nat) (ar : Nat) (ap : Nat) (t : List Nat) (ng : Bool) (me : Nat) (mf : Nat) (mb : Nat) (mm : Nat) (ms : Nat) (mt : Int) (mq : Nat) (mz : Int) (b : Nat) (hb9 : b < 18446744073709551616) (C0 : cxA p s m args meth c b_Mo_narrowed 10 R_Mo (some .long)) (hA : ∀ q : Nat, s.heap.size ≤ q → A q) (hE : Ev Z A s s.heap) : ∀ (N : Nat) (i : Nat) (H : Heap) (locs : List Loc) (ls : Array Slot), 930 - i < N → (fSz b false < fI false) → (i ≤ 930) → (i = 0 ∨ 16777216 ≤ fM b false / 2 ^ (i - 1) ∨ fW b false + ((i : Nat) : Int) - 1 < -149) → va_K D classes [] s → va_P D classes [(h0, .inr (5, [.int (iZ (0)), .ref au, .ref al, .ref av, .ref ao, .ref ah, .ref ar, .ref ap, .int (iZ ((((t).length : Nat) : Int))), .int (bZ (fN b false = true)), .int (iZ (((fE b false : Nat) : Int))), .long (lN (fF b false)), .int (iZ (((fP false : Nat) : Int))), .int (iZ (((fMo false : Nat) : Int))), .long (lN (fM b false)), .int (iZ (fW b false)), .long (lN (mq)), .int (iZ (mz))]))] H → va_D A [(h0, .inr (5, [.int (iZ (0)), .ref au, .ref al, .ref av, .ref ao, .ref ah, .ref ar, .ref ap, .int (iZ ((((t).length : Nat) : Int))), .int (bZ (fN b false = true)), .int (iZ (((fE b false : Nat) : Int))), .long (lN (fF b false)), .int (iZ (((fP false : Nat) : Int))), .int (iZ (((fMo false : Nat) : Int))), .long (lN (fM b false)), .int (iZ (fW b false)), .long (lN (mq)), .int (iZ (mz))]))] → va_S A s.heap H locs → lv_has ls 10 [(0, .ref h0), (3, .long (lN (if b / fS false % 2 = 1 then fS true else 0))), (5, .long (lN (fM b false / 2 ^ i))), (7, .int (iZ (fW b false + ((i : Nat) : Int)))), (8, .int (bZ (sbM (fM b false) i = true))), (9, .int (iZ (((lbM (fM b false) i : Nat) : Int))))] → W p l e ({ frames := 1, cells := 0, slots := 0, locals := 23 } : Room) s m args below meth c H locs 0 0 (MQ below (Qc_Mo_narrowed D h0 th au al av ao ah ar ap t ng me mf mb mm ms mt mq mz b A) args s 0 0 A) (F0 m 72 ls []) := by
  obtain ⟨hx, hb, hml, hown, hts, hr, hlocks⟩ := id C0
  intro N
  induction N with
  | zero => intro i H locs ls hN; exact absurd hN (Nat.not_lt_zero _)
  | succ N ih =>
    intro i H locs ls hN hfin hi h3 hK hP hD hS hl
    have hfe := fE_lt b false
    have hmo := fMo_lt false
    have hff := fF_lt b false
    have hpp := fP_pow false
    have hfi := fin_iff b false
    obtain ⟨hs1, hs2⟩ := sz_facts b false
    have hfn := fN_iff b false
    have hmm := fM_lt b false
    have hsgl : (if b / fS false % 2 = 1 then fS true else 0) < 18446744073709551616 := by split <;> decide
    have hdv := Nat.div_le_self (fM b false) (2 ^ i)
    have hfw := fW_fin hfin
    have hlb := lb_le (fM b false) i
    refine lv_lload hx hb d_Mo_narrowed_72 (lv_at hl 2 rfl) ?_
    refine lv_ldc2 (v := (16777216)) hx hb hown (hts _ kw_401_) d_Mo_narrowed_74 ?_
    refine nv_top (y := lN 16777216) (by decide) ?_
    refine nv_lcmp_ge (tgt := 89) hx hb d_Mo_narrowed_77 d_Mo_narrowed_78 (by decide) (by omega) (by decide) (fun c77 => ?_) (fun c77 => ?_)
    · have hi9 : i < 930 := nar_i (w := fW b false) (by omega : fM b false < 9007199254740992) (by omega) (by omega)
      have hgo : 16777216 ≤ fM b false / 2 ^ i ∨ fW b false + ((i : Nat) : Int) < -149 := by omega
      refine lv_iload hx hb d_Mo_narrowed_89 (lv_at hl 4 rfl) ?_
      refine bv_if_ne (tgt := 100) hx hb d_Mo_narrowed_91 (by decide) (fun c91 => ?_) (fun c91 => ?_)
      · refine lv_iconst (v := iZ (1)) hx hb d_Mo_narrowed_100 rfl ?_
        refine zv_top (y := bZ (sbM (fM b false) (i + 1) = true)) ((bZ_t (sb_next.mpr (by first | exact Or.inl (by assumption) | exact Or.inr (by omega)))).symm) ?_
        refine lv_goto (tgt := 105) hx hb d_Mo_narrowed_101 (by decide) ?_
        refine lv_istore (lv' := [(8, .int (bZ (sbM (fM b false) (i + 1) = true))), (0, .ref h0), (3, .long (lN (if b / fS false % 2 = 1 then fS true else 0))), (5, .long (lN (fM b false / 2 ^ i))), (7, .int (iZ (fW b false + ((i : Nat) : Int)))), (9, .int (iZ (((lbM (fM b false) i : Nat) : Int))))]) hx hb d_Mo_narrowed_105 hl (by decide) rfl (fun ls hl => ?_)
        refine lv_lload hx hb d_Mo_narrowed_107 (lv_at hl 3 rfl) ?_
        refine lv_lconst (v := lN 1) hx hb d_Mo_narrowed_109 rfl ?_
        refine nv_land hx hb d_Mo_narrowed_110 (by omega) (by decide) ?_
        refine nv_top (y := lN (lbM (fM b false) (i + 1))) (congrArg lN (by rw [Nat.and_one_is_mod]; rfl)) ?_
        refine nv_l2i hx hb d_Mo_narrowed_111 ?_
        refine lv_istore (lv' := [(9, .int (iZ (((lbM (fM b false) (i + 1) : Nat) : Int)))), (8, .int (bZ (sbM (fM b false) (i + 1) = true))), (0, .ref h0), (3, .long (lN (if b / fS false % 2 = 1 then fS true else 0))), (5, .long (lN (fM b false / 2 ^ i))), (7, .int (iZ (fW b false + ((i : Nat) : Int))))]) hx hb d_Mo_narrowed_112 hl (by decide) rfl (fun ls hl => ?_)
        refine lv_lload hx hb d_Mo_narrowed_114 (lv_at hl 4 rfl) ?_
        refine lv_iconst (v := iZ (1)) hx hb d_Mo_narrowed_116 rfl ?_
        refine nv_lshr (k := 1) hx hb d_Mo_narrowed_117 (rfl) (by omega) (by decide) ?_
        refine nv_top (y := lN (fM b false / 2 ^ (i + 1))) (congrArg lN (by rw [Nat.div_div_eq_div_mul, ← Nat.pow_add])) ?_
        refine lv_lstore (lv' := [(5, .long (lN (fM b false / 2 ^ (i + 1)))), (9, .int (iZ (((lbM (fM b false) (i + 1) : Nat) : Int)))), (8, .int (bZ (sbM (fM b false) (i + 1) = true))), (0, .ref h0), (3, .long (lN (if b / fS false % 2 = 1 then fS true else 0))), (7, .int (iZ (fW b false + ((i : Nat) : Int))))]) hx hb d_Mo_narrowed_118 hl (by decide) rfl (fun ls hl => ?_)
        refine lv_iinc (v := iZ (fW b false + ((i + 1 : Nat) : Int))) (lv' := [(7, .int (iZ (fW b false + ((i + 1 : Nat) : Int)))), (5, .long (lN (fM b false / 2 ^ (i + 1)))), (9, .int (iZ (((lbM (fM b false) (i + 1) : Nat) : Int)))), (8, .int (bZ (sbM (fM b false) (i + 1) = true))), (0, .ref h0), (3, .long (lN (if b / fS false % 2 = 1 then fS true else 0)))]) hx hb d_Mo_narrowed_120 hl (k := 5) rfl ((iZ_add _ _).trans (congrArg iZ (by omega))) (by decide) rfl (fun ls hl => ?_)
        refine lv_goto (tgt := 72) hx hb d_Mo_narrowed_123 (by decide) ?_
        exact ih (i + 1) _ _ _ (by omega) (hfin) (by omega) (Or.inr (by rw [Nat.add_sub_cancel]; omega)) (hK.sub [] rfl) (hP.sub [0] rfl) (hD.sub [0] (by decide) rfl) hS (lv_sub hl [4, 5, 1, 0, 3, 2] rfl)
      · refine lv_iload hx hb d_Mo_narrowed_94 (lv_at hl 5 rfl) ?_
        refine lv_iconst (v := iZ (1)) hx hb d_Mo_narrowed_96 rfl ?_
        refine zv_icmp_ne (tgt := 104) hx hb d_Mo_narrowed_97 (by decide) (by omega) (by omega) (fun c97 => ?_) (fun c97 => ?_)
        · refine lv_iconst (v := iZ (0)) hx hb d_Mo_narrowed_104 rfl ?_
          refine zv_top (y := bZ (sbM (fM b false) (i + 1) = true)) ((bZ_f (fun q => (sb_next.mp q).elim (by assumption) (by omega))).symm) ?_
          refine lv_istore (lv' := [(8, .int (bZ (sbM (fM b false) (i + 1) = true))), (0, .ref h0), (3, .long (lN (if b / fS false % 2 = 1 then fS true else 0))), (5, .long (lN (fM b false / 2 ^ i))), (7, .int (iZ (fW b false + ((i : Nat) : Int)))), (9, .int (iZ (((lbM (fM b false) i : Nat) : Int))))]) hx hb d_Mo_narrowed_105 hl (by decide) rfl (fun ls hl => ?_)
          refine lv_lload hx hb d_Mo_narrowed_107 (lv_at hl 3 rfl) ?_
          refine lv_lconst (v := lN 1) hx hb d_Mo_narrowed_109 rfl ?_
          refine nv_land hx hb d_Mo_narrowed_110 (by omega) (by decide) ?_
          refine nv_top (y := lN (lbM (fM b false) (i + 1))) (congrArg lN (by rw [Nat.and_one_is_mod]; rfl)) ?_
          refine nv_l2i hx hb d_Mo_narrowed_111 ?_
          refine lv_istore (lv' := [(9, .int (iZ (((lbM (fM b false) (i + 1) : Nat) : Int)))), (8, .int (bZ (sbM (fM b false) (i + 1) = true))), (0, .ref h0), (3, .long (lN (if b / fS false % 2 = 1 then fS true else 0))), (5, .long (lN (fM b false / 2 ^ i))), (7, .int (iZ (fW b false + ((i : Nat) : Int))))]) hx hb d_Mo_narrowed_112 hl (by decide) rfl (fun ls hl => ?_)
          refine lv_lload hx hb d_Mo_narrowed_114 (lv_at hl 4 rfl) ?_
          refine lv_iconst (v := iZ (1)) hx hb d_Mo_narrowed_116 rfl ?_
          refine nv_lshr (k := 1) hx hb d_Mo_narrowed_117 (rfl) (by omega) (by decide) ?_
          refine nv_top (y := lN (fM b false / 2 ^ (i + 1))) (congrArg lN (by rw [Nat.div_div_eq_div_mul, ← Nat.pow_add])) ?_
          refine lv_lstore (lv' := [(5, .long (lN (fM b false / 2 ^ (i + 1)))), (9, .int (iZ (((lbM (fM b false) (i + 1) : Nat) : Int)))), (8, .int (bZ (sbM (fM b false) (i + 1) = true))), (0, .ref h0), (3, .long (lN (if b / fS false % 2 = 1 then fS true else 0))), (7, .int (iZ (fW b false + ((i : Nat) : Int))))]) hx hb d_Mo_narrowed_118 hl (by decide) rfl (fun ls hl => ?_)
          refine lv_iinc (v := iZ (fW b false + ((i + 1 : Nat) : Int))) (lv' := [(7, .int (iZ (fW b false + ((i + 1 : Nat) : Int)))), (5, .long (lN (fM b false / 2 ^ (i + 1)))), (9, .int (iZ (((lbM (fM b false) (i + 1) : Nat) : Int)))), (8, .int (bZ (sbM (fM b false) (i + 1) = true))), (0, .ref h0), (3, .long (lN (if b / fS false % 2 = 1 then fS true else 0)))]) hx hb d_Mo_narrowed_120 hl (k := 5) rfl ((iZ_add _ _).trans (congrArg iZ (by omega))) (by decide) rfl (fun ls hl => ?_)
          refine lv_goto (tgt := 72) hx hb d_Mo_narrowed_123 (by decide) ?_
          exact ih (i + 1) _ _ _ (by omega) (hfin) (by omega) (Or.inr (by rw [Nat.add_sub_cancel]; omega)) (hK.sub [] rfl) (hP.sub [0] rfl) (hD.sub [0] (by decide) rfl) hS (lv_sub hl [4, 5, 1, 0, 3, 2] rfl)
        · refine lv_iconst (v := iZ (1)) hx hb d_Mo_narrowed_100 rfl ?_
          refine zv_top (y := bZ (sbM (fM b false) (i + 1) = true)) ((bZ_t (sb_next.mpr (by first | exact Or.inl (by assumption) | exact Or.inr (by omega)))).symm) ?_
          refine lv_goto (tgt := 105) hx hb d_Mo_narrowed_101 (by decide) ?_
          refine lv_istore (lv' := [(8, .int (bZ (sbM (fM b false) (i + 1) = true))), (0, .ref h0), (3, .long (lN (if b / fS false % 2 = 1 then fS true else 0))), (5, .long (lN (fM b false / 2 ^ i))), (7, .int (iZ (fW b false + ((i : Nat) : Int)))), (9, .int (iZ (((lbM (fM b false) i : Nat) : Int))))]) hx hb d_Mo_narrowed_105 hl (by decide) rfl (fun ls hl => ?_)
          refine lv_lload hx hb d_Mo_narrowed_107 (lv_at hl 3 rfl) ?_
          refine lv_lconst (v := lN 1) hx hb d_Mo_narrowed_109 rfl ?_
          refine nv_land hx hb d_Mo_narrowed_110 (by omega) (by decide) ?_
          refine nv_top (y := lN (lbM (fM b false) (i + 1))) (congrArg lN (by rw [Nat.and_one_is_mod]; rfl)) ?_
          refine nv_l2i hx hb d_Mo_narrowed_111 ?_
          refine lv_istore (lv' := [(9, .int (iZ (((lbM (fM b false) (i + 1) : Nat) : Int)))), (8, .int (bZ (sbM (fM b false) (i + 1) = true))), (0, .ref h0), (3, .long (lN (if b / fS false % 2 = 1 then fS true else 0))), (5, .long (lN (fM b false / 2 ^ i))), (7, .int (iZ (fW b false + ((i : Nat) : Int))))]) hx hb d_Mo_narrowed_112 hl (by decide) rfl (fun ls hl => ?_)
          refine lv_lload hx hb d_Mo_narrowed_114 (lv_at hl 4 rfl) ?_
          refine lv_iconst (v := iZ (1)) hx hb d_Mo_narrowed_116 rfl ?_
          refine nv_lshr (k := 1) hx hb d_Mo_narrowed_117 (rfl) (by omega) (by decide) ?_
          refine nv_top (y := lN (fM b false / 2 ^ (i + 1))) (congrArg lN (by rw [Nat.div_div_eq_div_mul, ← Nat.pow_add])) ?_
          refine lv_lstore (lv' := [(5, .long (lN (fM b false / 2 ^ (i + 1)))), (9, .int (iZ (((lbM (fM b false) (i + 1) : Nat) : Int)))), (8, .int (bZ (sbM (fM b false) (i + 1) = true))), (0, .ref h0), (3, .long (lN (if b / fS false % 2 = 1 then fS true else 0))), (7, .int (iZ (fW b false + ((i : Nat) : Int))))]) hx hb d_Mo_narrowed_118 hl (by decide) rfl (fun ls hl => ?_)
          refine lv_iinc (v := iZ (fW b false + ((i + 1 : Nat) : Int))) (lv' := [(7, .int (iZ (fW b false + ((i + 1 : Nat) : Int)))), (5, .long (lN (fM b false / 2 ^ (i + 1)))), (9, .int (iZ (((lbM (fM b false) (i + 1) : Nat) : Int)))), (8, .int (bZ (sbM (fM b false) (i + 1) = true))), (0, .ref h0), (3, .long (lN (if b / fS false % 2 = 1 then fS true else 0)))]) hx hb d_Mo_narrowed_120 hl (k := 5) rfl ((iZ_add _ _).trans (congrArg iZ (by omega))) (by decide) rfl (fun ls hl => ?_)
          refine lv_goto (tgt := 72) hx hb d_Mo_narrowed_123 (by decide) ?_
          exact ih (i + 1) _ _ _ (by omega) (hfin) (by omega) (Or.inr (by rw [Nat.add_sub_cancel]; omega)) (hK.sub [] rfl) (hP.sub [0] rfl) (hD.sub [0] (by decide) rfl) hS (lv_sub hl [4, 5, 1, 0, 3, 2] rfl)
    · refine lv_iload hx hb d_Mo_narrowed_81 (lv_at hl 3 rfl) ?_
      refine lv_sipush (v := iZ (-149)) hx hb d_Mo_narrowed_83 (by decide) ?_
      refine zv_icmp_ge (tgt := 126) hx hb d_Mo_narrowed_86 (by decide) (by omega) (by omega) (fun c86 => ?_) (fun c86 => ?_)
      · have h1 : fM b false / 2 ^ i < 16777216 := by omega
        have h2 : -149 ≤ fW b false + ((i : Nat) : Int) := by omega
        have hi0 := (nar_shape hfin h1 h2 h3).1
        refine lv_iload hx hb d_Mo_narrowed_126 (lv_at hl 5 rfl) ?_
        refine lv_iconst (v := iZ (1)) hx hb d_Mo_narrowed_128 rfl ?_
        refine zv_icmp_ne (tgt := 153) hx hb d_Mo_narrowed_129 (by decide) (by omega) (by omega) (fun c129 => ?_) (fun c129 => ?_)
        · refine lv_lload hx hb d_Mo_narrowed_153 (lv_at hl 2 rfl) ?_
          refine nv_top (y := lN (hTE (fM b false) i)) (congrArg lN (nar_dn hi0 (by first | exact Or.inl (by omega) | exact Or.inr ⟨by assumption, by omega⟩))) ?_
          exact lp_Mo_narrowed_155 h0 th au al av ao ah ar ap t ng me mf mb mm ms mt mq mz b hb9 C0 hA hE (0 + 1) i _ _ _ (Nat.lt_succ_self _) (hfin) (h1) (h2) (h3) (hK.sub [] rfl) (hP.sub [0] rfl) (hD.sub [0] (by decide) rfl) hS (lv_sub hl [0, 1, 3] rfl)
        · refine lv_iload hx hb d_Mo_narrowed_132 (lv_at hl 4 rfl) ?_
          refine bv_if_ne (tgt := 146) hx hb d_Mo_narrowed_134 (by decide) (fun c134 => ?_) (fun c134 => ?_)
          · refine lv_lload hx hb d_Mo_narrowed_146 (lv_at hl 2 rfl) ?_
            refine lv_lconst (v := lN 1) hx hb d_Mo_narrowed_148 rfl ?_
            refine nv_ladd hx hb d_Mo_narrowed_149 ?_
            refine nv_top (y := lN (hTE (fM b false) i)) (congrArg lN (nar_up hi0 (by omega) (by first | exact Or.inl (by assumption) | exact Or.inr (by omega)))) ?_
            refine lv_goto (tgt := 155) hx hb d_Mo_narrowed_150 (by decide) ?_
            exact lp_Mo_narrowed_155 h0 th au al av ao ah ar ap t ng me mf mb mm ms mt mq mz b hb9 C0 hA hE (0 + 1) i _ _ _ (Nat.lt_succ_self _) (hfin) (h1) (h2) (h3) (hK.sub [] rfl) (hP.sub [0] rfl) (hD.sub [0] (by decide) rfl) hS (lv_sub hl [0, 1, 3] rfl)
          · refine lv_lload hx hb d_Mo_narrowed_137 (lv_at hl 2 rfl) ?_
            refine lv_lconst (v := lN 1) hx hb d_Mo_narrowed_139 rfl ?_
            refine nv_land hx hb d_Mo_narrowed_140 (by omega) (by decide) ?_
            refine nv_top (y := lN (fM b false / 2 ^ i % 2)) (congrArg lN (by rw [Nat.and_one_is_mod])) ?_
            refine lv_lconst (v := lN 1) hx hb d_Mo_narrowed_141 rfl ?_
            refine nv_lcmp_ne (tgt := 153) hx hb d_Mo_narrowed_142 d_Mo_narrowed_143 (by decide) (by omega) (by decide) (fun c142 => ?_) (fun c142 => ?_)
            · refine lv_lload hx hb d_Mo_narrowed_153 (lv_at hl 2 rfl) ?_
              refine nv_top (y := lN (hTE (fM b false) i)) (congrArg lN (nar_dn hi0 (by first | exact Or.inl (by omega) | exact Or.inr ⟨by assumption, by omega⟩))) ?_
              exact lp_Mo_narrowed_155 h0 th au al av ao ah ar ap t ng me mf mb mm ms mt mq mz b hb9 C0 hA hE (0 + 1) i _ _ _ (Nat.lt_succ_self _) (hfin) (h1) (h2) (h3) (hK.sub [] rfl) (hP.sub [0] rfl) (hD.sub [0] (by decide) rfl) hS (lv_sub hl [0, 1, 3] rfl)
            · refine lv_lload hx hb d_Mo_narrowed_146 (lv_at hl 2 rfl) ?_
              refine lv_lconst (v := lN 1) hx hb d_Mo_narrowed_148 rfl ?_
              refine nv_ladd hx hb d_Mo_narrowed_149 ?_
              refine nv_top (y := lN (hTE (fM b false) i)) (congrArg lN (nar_up hi0 (by omega) (by first | exact Or.inl (by assumption) | exact Or.inr (by omega)))) ?_
              refine lv_goto (tgt := 155) hx hb d_Mo_narrowed_150 (by decide) ?_
              exact lp_Mo_narrowed_155 h0 th au al av ao ah ar ap t ng me mf mb mm ms mt mq mz b hb9 C0 hA hE (0 + 1) i _ _ _ (Nat.lt_succ_self _) (hfin) (h1) (h2) (h3) (hK.sub [] rfl) (hP.sub [0] rfl) (hD.sub [0] (by decide) rfl) hS (lv_sub hl [0, 1, 3] rfl)
      · have hi9 : i < 930 := nar_i (w := fW b false) (by omega : fM b false < 9007199254740992) (by omega) (by omega)
        have hgo : 16777216 ≤ fM b false / 2 ^ i ∨ fW b false + ((i : Nat) : Int) < -149 := by omega
        refine lv_iload hx hb d_Mo_narrowed_89 (lv_at hl 4 rfl) ?_
        refine bv_if_ne (tgt := 100) hx hb d_Mo_narrowed_91 (by decide) (fun c91 => ?_) (fun c91 => ?_)
        · refine lv_iconst (v := iZ (1)) hx hb d_Mo_narrowed_100 rfl ?_
          refine zv_top (y := bZ (sbM (fM b false) (i + 1) = true)) ((bZ_t (sb_next.mpr (by first | exact Or.inl (by assumption) | exact Or.inr (by omega)))).symm) ?_
          refine lv_goto (tgt := 105) hx hb d_Mo_narrowed_101 (by decide) ?_
          refine lv_istore (lv' := [(8, .int (bZ (sbM (fM b false) (i + 1) = true))), (0, .ref h0), (3, .long (lN (if b / fS false % 2 = 1 then fS true else 0))), (5, .long (lN (fM b false / 2 ^ i))), (7, .int (iZ (fW b false + ((i : Nat) : Int)))), (9, .int (iZ (((lbM (fM b false) i : Nat) : Int))))]) hx hb d_Mo_narrowed_105 hl (by decide) rfl (fun ls hl => ?_)
          refine lv_lload hx hb d_Mo_narrowed_107 (lv_at hl 3 rfl) ?_
          refine lv_lconst (v := lN 1) hx hb d_Mo_narrowed_109 rfl ?_
          refine nv_land hx hb d_Mo_narrowed_110 (by omega) (by decide) ?_
          refine nv_top (y := lN (lbM (fM b false) (i + 1))) (congrArg lN (by rw [Nat.and_one_is_mod]; rfl)) ?_
          refine nv_l2i hx hb d_Mo_narrowed_111 ?_
          refine lv_istore (lv' := [(9, .int (iZ (((lbM (fM b false) (i + 1) : Nat) : Int)))), (8, .int (bZ (sbM (fM b false) (i + 1) = true))), (0, .ref h0), (3, .long (lN (if b / fS false % 2 = 1 then fS true else 0))), (5, .long (lN (fM b false / 2 ^ i))), (7, .int (iZ (fW b false + ((i : Nat) : Int))))]) hx hb d_Mo_narrowed_112 hl (by decide) rfl (fun ls hl => ?_)
          refine lv_lload hx hb d_Mo_narrowed_114 (lv_at hl 4 rfl) ?_
          refine lv_iconst (v := iZ (1)) hx hb d_Mo_narrowed_116 rfl ?_
          refine nv_lshr (k := 1) hx hb d_Mo_narrowed_117 (rfl) (by omega) (by decide) ?_
          refine nv_top (y := lN (fM b false / 2 ^ (i + 1))) (congrArg lN (by rw [Nat.div_div_eq_div_mul, ← Nat.pow_add])) ?_
          refine lv_lstore (lv' := [(5, .long (lN (fM b false / 2 ^ (i + 1)))), (9, .int (iZ (((lbM (fM b false) (i + 1) : Nat) : Int)))), (8, .int (bZ (sbM (fM b false) (i + 1) = true))), (0, .ref h0), (3, .long (lN (if b / fS false % 2 = 1 then fS true else 0))), (7, .int (iZ (fW b false + ((i : Nat) : Int))))]) hx hb d_Mo_narrowed_118 hl (by decide) rfl (fun ls hl => ?_)
          refine lv_iinc (v := iZ (fW b false + ((i + 1 : Nat) : Int))) (lv' := [(7, .int (iZ (fW b false + ((i + 1 : Nat) : Int)))), (5, .long (lN (fM b false / 2 ^ (i + 1)))), (9, .int (iZ (((lbM (fM b false) (i + 1) : Nat) : Int)))), (8, .int (bZ (sbM (fM b false) (i + 1) = true))), (0, .ref h0), (3, .long (lN (if b / fS false % 2 = 1 then fS true else 0)))]) hx hb d_Mo_narrowed_120 hl (k := 5) rfl ((iZ_add _ _).trans (congrArg iZ (by omega))) (by decide) rfl (fun ls hl => ?_)
          refine lv_goto (tgt := 72) hx hb d_Mo_narrowed_123 (by decide) ?_
          exact ih (i + 1) _ _ _ (by omega) (hfin) (by omega) (Or.inr (by rw [Nat.add_sub_cancel]; omega)) (hK.sub [] rfl) (hP.sub [0] rfl) (hD.sub [0] (by decide) rfl) hS (lv_sub hl [4, 5, 1, 0, 3, 2] rfl)
        · refine lv_iload hx hb d_Mo_narrowed_94 (lv_at hl 5 rfl) ?_
          refine lv_iconst (v := iZ (1)) hx hb d_Mo_narrowed_96 rfl ?_
          refine zv_icmp_ne (tgt := 104) hx hb d_Mo_narrowed_97 (by decide) (by omega) (by omega) (fun c97 => ?_) (fun c97 => ?_)
          · refine lv_iconst (v := iZ (0)) hx hb d_Mo_narrowed_104 rfl ?_
            refine zv_top (y := bZ (sbM (fM b false) (i + 1) = true)) ((bZ_f (fun q => (sb_next.mp q).elim (by assumption) (by omega))).symm) ?_
            refine lv_istore (lv' := [(8, .int (bZ (sbM (fM b false) (i + 1) = true))), (0, .ref h0), (3, .long (lN (if b / fS false % 2 = 1 then fS true else 0))), (5, .long (lN (fM b false / 2 ^ i))), (7, .int (iZ (fW b false + ((i : Nat) : Int)))), (9, .int (iZ (((lbM (fM b false) i : Nat) : Int))))]) hx hb d_Mo_narrowed_105 hl (by decide) rfl (fun ls hl => ?_)
            refine lv_lload hx hb d_Mo_narrowed_107 (lv_at hl 3 rfl) ?_
            refine lv_lconst (v := lN 1) hx hb d_Mo_narrowed_109 rfl ?_
            refine nv_land hx hb d_Mo_narrowed_110 (by omega) (by decide) ?_
            refine nv_top (y := lN (lbM (fM b false) (i + 1))) (congrArg lN (by rw [Nat.and_one_is_mod]; rfl)) ?_
            refine nv_l2i hx hb d_Mo_narrowed_111 ?_
            refine lv_istore (lv' := [(9, .int (iZ (((lbM (fM b false) (i + 1) : Nat) : Int)))), (8, .int (bZ (sbM (fM b false) (i + 1) = true))), (0, .ref h0), (3, .long (lN (if b / fS false % 2 = 1 then fS true else 0))), (5, .long (lN (fM b false / 2 ^ i))), (7, .int (iZ (fW b false + ((i : Nat) : Int))))]) hx hb d_Mo_narrowed_112 hl (by decide) rfl (fun ls hl => ?_)
            refine lv_lload hx hb d_Mo_narrowed_114 (lv_at hl 4 rfl) ?_
            refine lv_iconst (v := iZ (1)) hx hb d_Mo_narrowed_116 rfl ?_
            refine nv_lshr (k := 1) hx hb d_Mo_narrowed_117 (rfl) (by omega) (by decide) ?_
            refine nv_top (y := lN (fM b false / 2 ^ (i + 1))) (congrArg lN (by rw [Nat.div_div_eq_div_mul, ← Nat.pow_add])) ?_
            refine lv_lstore (lv' := [(5, .long (lN (fM b false / 2 ^ (i + 1)))), (9, .int (iZ (((lbM (fM b false) (i + 1) : Nat) : Int)))), (8, .int (bZ (sbM (fM b false) (i + 1) = true))), (0, .ref h0), (3, .long (lN (if b / fS false % 2 = 1 then fS true else 0))), (7, .int (iZ (fW b false + ((i : Nat) : Int))))]) hx hb d_Mo_narrowed_118 hl (by decide) rfl (fun ls hl => ?_)
            refine lv_iinc (v := iZ (fW b false + ((i + 1 : Nat) : Int))) (lv' := [(7, .int (iZ (fW b false + ((i + 1 : Nat) : Int)))), (5, .long (lN (fM b false / 2 ^ (i + 1)))), (9, .int (iZ (((lbM (fM b false) (i + 1) : Nat) : Int)))), (8, .int (bZ (sbM (fM b false) (i + 1) = true))), (0, .ref h0), (3, .long (lN (if b / fS false % 2 = 1 then fS true else 0)))]) hx hb d_Mo_narrowed_120 hl (k := 5) rfl ((iZ_add _ _).trans (congrArg iZ (by omega))) (by decide) rfl (fun ls hl => ?_)
            refine lv_goto (tgt := 72) hx hb d_Mo_narrowed_123 (by decide) ?_
            exact ih (i + 1) _ _ _ (by omega) (hfin) (by omega) (Or.inr (by rw [Nat.add_sub_cancel]; omega)) (hK.sub [] rfl) (hP.sub [0] rfl) (hD.sub [0] (by decide) rfl) hS (lv_sub hl [4, 5, 1, 0, 3, 2] rfl)
          · refine lv_iconst (v := iZ (1)) hx hb d_Mo_narrowed_100 rfl ?_
            refine zv_top (y := bZ (sbM (fM b false) (i + 1) = true)) ((bZ_t (sb_next.mpr (by first | exact Or.inl (by assumption) | exact Or.inr (by omega)))).symm) ?_
            refine lv_goto (tgt := 105) hx hb d_Mo_narrowed_101 (by decide) ?_
            refine lv_istore (lv' := [(8, .int (bZ (sbM (fM b false) (i + 1) = true))), (0, .ref h0), (3, .long (lN (if b / fS false % 2 = 1 then fS true else 0))), (5, .long (lN (fM b false / 2 ^ i))), (7, .int (iZ (fW b false + ((i : Nat) : Int)))), (9, .int (iZ (((lbM (fM b false) i : Nat) : Int))))]) hx hb d_Mo_narrowed_105 hl (by decide) rfl (fun ls hl => ?_)
            refine lv_lload hx hb d_Mo_narrowed_107 (lv_at hl 3 rfl) ?_
            refine lv_lconst (v := lN 1) hx hb d_Mo_narrowed_109 rfl ?_
            refine nv_land hx hb d_Mo_narrowed_110 (by omega) (by decide) ?_
            refine nv_top (y := lN (lbM (fM b false) (i + 1))) (congrArg lN (by rw [Nat.and_one_is_mod]; rfl)) ?_
            refine nv_l2i hx hb d_Mo_narrowed_111 ?_
            refine lv_istore (lv' := [(9, .int (iZ (((lbM (fM b false) (i + 1) : Nat) : Int)))), (8, .int (bZ (sbM (fM b false) (i + 1) = true))), (0, .ref h0), (3, .long (lN (if b / fS false % 2 = 1 then fS true else 0))), (5, .long (lN (fM b false / 2 ^ i))), (7, .int (iZ (fW b false + ((i : Nat) : Int))))]) hx hb d_Mo_narrowed_112 hl (by decide) rfl (fun ls hl => ?_)
            refine lv_lload hx hb d_Mo_narrowed_114 (lv_at hl 4 rfl) ?_
            refine lv_iconst (v := iZ (1)) hx hb d_Mo_narrowed_116 rfl ?_
            refine nv_lshr (k := 1) hx hb d_Mo_narrowed_117 (rfl) (by omega) (by decide) ?_
            refine nv_top (y := lN (fM b false / 2 ^ (i + 1))) (congrArg lN (by rw [Nat.div_div_eq_div_mul, ← Nat.pow_add])) ?_
            refine lv_lstore (lv' := [(5, .long (lN (fM b false / 2 ^ (i + 1)))), (9, .int (iZ (((lbM (fM b false) (i + 1) : Nat) : Int)))), (8, .int (bZ (sbM (fM b false) (i + 1) = true))), (0, .ref h0), (3, .long (lN (if b / fS false % 2 = 1 then fS true else 0))), (7, .int (iZ (fW b false + ((i : Nat) : Int))))]) hx hb d_Mo_narrowed_118 hl (by decide) rfl (fun ls hl => ?_)
            refine lv_iinc (v := iZ (fW b false + ((i + 1 : Nat) : Int))) (lv' := [(7, .int (iZ (fW b false + ((i + 1 : Nat) : Int)))), (5, .long (lN (fM b false / 2 ^ (i + 1)))), (9, .int (iZ (((lbM (fM b false) (i + 1) : Nat) : Int)))), (8, .int (bZ (sbM (fM b false) (i + 1) = true))), (0, .ref h0), (3, .long (lN (if b / fS false % 2 = 1 then fS true else 0)))]) hx hb d_Mo_narrowed_120 hl (k := 5) rfl ((iZ_add _ _).trans (congrArg iZ (by omega))) (by decide) rfl (fun ls hl => ?_)
            refine lv_goto (tgt := 72) hx hb d_Mo_narrowed_123 (by decide) ?_
            exact ih (i + 1) _ _ _ (by omega) (hfin) (by omega) (Or.inr (by rw [Nat.add_sub_cancel]; omega)) (hK.sub [] rfl) (hP.sub [0] rfl) (hD.sub [0] (by decide) rfl) hS (lv_sub hl [4, 5, 1, 0, 3, 2] rfl)
set_option maxHeartbeats 4000000 in
set_option maxRecDepth 100000 in
theorem lp_Mo_narrowed_25 {p : Program} {l : Launch} {e : Env} {s : State} {m : MethodId} {args : Array Value} {below : List Frame} {meth : Method} {c : Code} {A : Nat → Prop} {D : va_G} {Z : Nat → Nat} (h0 : Nat) (th : Int) (au : Nat) (al : Nat) (av : Nat) (ao : Nat) (ah : Nat) (ar : Nat) (ap : Nat) (t : List Nat) (ng : Bool) (me : Nat) (mf : Nat) (mb : Nat) (mm : Nat) (ms : Nat) (mt : Int) (mq : Nat) (mz : Int) (b : Nat) (hb9 : b < 18446744073709551616) (C0 : cxA p s m args meth c b_Mo_narrowed 10 R_Mo (some .long)) (hA : ∀ q : Nat, s.heap.size ≤ q → A q) (hE : Ev Z A s s.heap) : ∀ (N : Nat)  (H : Heap) (locs : List Loc) (ls : Array Slot), 0 < N → va_K D classes [] s → va_P D classes [(h0, .inr (5, [.int (iZ (0)), .ref au, .ref al, .ref av, .ref ao, .ref ah, .ref ar, .ref ap, .int (iZ ((((t).length : Nat) : Int))), .int (bZ (fN b false = true)), .int (iZ (((fE b false : Nat) : Int))), .long (lN (fF b false)), .int (iZ (((fP false : Nat) : Int))), .int (iZ (((fMo false : Nat) : Int))), .long (lN (fM b false)), .int (iZ (fW b false)), .long (lN (mq)), .int (iZ (mz))]))] H → va_D A [(h0, .inr (5, [.int (iZ (0)), .ref au, .ref al, .ref av, .ref ao, .ref ah, .ref ar, .ref ap, .int (iZ ((((t).length : Nat) : Int))), .int (bZ (fN b false = true)), .int (iZ (((fE b false : Nat) : Int))), .long (lN (fF b false)), .int (iZ (((fP false : Nat) : Int))), .int (iZ (((fMo false : Nat) : Int))), .long (lN (fM b false)), .int (iZ (fW b false)), .long (lN (mq)), .int (iZ (mz))]))] → va_S A s.heap H locs → lv_has ls 10 [(0, .ref h0), (1, .long (lN (b)))] → W p l e ({ frames := 1, cells := 0, slots := 0, locals := 23 } : Room) s m args below meth c H locs 0 0 (MQ below (Qc_Mo_narrowed D h0 th au al av ao ah ar ap t ng me mf mb mm ms mt mq mz b A) args s 0 0 A) (F0 m 25 ls [.long (lN (if b / fS false % 2 = 1 then fS true else 0))]) := by
  obtain ⟨hx, hb, hml, hown, hts, hr, hlocks⟩ := id C0
  intro N
  induction N with
  | zero => intro  H locs ls hN; exact absurd hN (Nat.not_lt_zero _)
  | succ N ih =>
    intro  H locs ls hN  hK hP hD hS hl
    have hfe := fE_lt b false
    have hmo := fMo_lt false
    have hff := fF_lt b false
    have hpp := fP_pow false
    have hfi := fin_iff b false
    obtain ⟨hs1, hs2⟩ := sz_facts b false
    have hfn := fN_iff b false
    have hmm := fM_lt b false
    have hsgl : (if b / fS false % 2 = 1 then fS true else 0) < 18446744073709551616 := by split <;> decide
    refine lv_lstore_n (lv' := [(3, .long (lN (if b / fS false % 2 = 1 then fS true else 0))), (0, .ref h0), (1, .long (lN (b)))]) hx hb d_Mo_narrowed_25 rfl hl (by decide) rfl (fun ls hl => ?_)
    refine lv_aload_n hx hb d_Mo_narrowed_26 rfl (lv_at hl 1 rfl) ?_
    refine kg_i (kr_V (C0 := R_Mo) (ci := 5) (i0 := 0) (As := []) (rest := []) C0 (c_Mo_isFinite l D Z _ h0 0 au al av ao ah ar ap t (fN b false) (fE b false) (fF b false) (fP false) (fMo false) (fM b false) (fW b false) mq mz (by omega) (by omega)) q_y_Mo_isFinite kw_369_ kw_370_ kw_371_ kw_314_ hd_y_Mo_isFinite rfl rfl ⟨Nat.le_of_ble_eq_true rfl, Nat.le_of_ble_eq_true rfl⟩ (hP.sub (ws' := [(h0, .inr (5, [.int (iZ (0)), .ref au, .ref al, .ref av, .ref ao, .ref ah, .ref ar, .ref ap, .int (iZ ((((t).length : Nat) : Int))), .int (bZ ((fN b false) = true)), .int (iZ ((((fE b false) : Nat) : Int))), .long (lN ((fF b false))), .int (iZ ((((fP false) : Nat) : Int))), .int (iZ ((((fMo false) : Nat) : Int))), .long (lN ((fM b false))), .int (iZ ((fW b false))), .long (lN (mq)), .int (iZ (mz))]))]) [0] rfl) (hD.sub (ws' := [(h0, .inr (5, [.int (iZ (0)), .ref au, .ref al, .ref av, .ref ao, .ref ah, .ref ar, .ref ap, .int (iZ ((((t).length : Nat) : Int))), .int (bZ ((fN b false) = true)), .int (iZ ((((fE b false) : Nat) : Int))), .long (lN ((fF b false))), .int (iZ ((((fP false) : Nat) : Int))), .int (iZ ((((fMo false) : Nat) : Int))), .long (lN ((fM b false))), .int (iZ ((fW b false))), .long (lN (mq)), .int (iZ (mz))]))]) [0] (by decide) rfl) (hK.sub (tys' := []) [] rfl) hE hS (va_free (wc := [(h0, .inr (5, [.int (iZ (0)), .ref au, .ref al, .ref av, .ref ao, .ref ah, .ref ar, .ref ap, .int (iZ ((((t).length : Nat) : Int))), .int (bZ ((fN b false) = true)), .int (iZ ((((fE b false) : Nat) : Int))), .long (lN ((fF b false))), .int (iZ ((((fP false) : Nat) : Int))), .int (iZ ((((fMo false) : Nat) : Int))), .long (lN ((fM b false))), .int (iZ ((fW b false))), .long (lN (mq)), .int (iZ (mz))]))]) hD hS hA [0] rfl) rfl rfl rfl hl.1 rfl (Nat.le_of_ble_eq_true rfl) d_Mo_narrowed_27 ⟨Nat.le_of_ble_eq_true rfl, Nat.le_of_ble_eq_true rfl⟩) (fun r hr1 => ?_)
    obtain rfl : r = bZ ((fE b false) < (fMo false)) := hr1
    refine bv_if_ne (tgt := 54) hx hb d_Mo_narrowed_30 (by decide) (fun c30 => ?_) (fun c30 => ?_)
    · have hfin : fSz b false < fI false := hfi.mp c30
      refine lv_aload_n hx hb d_Mo_narrowed_54 rfl (lv_at hl 1 rfl) ?_
      refine va_get (D := D) (ci := 5) (v := .long (lN (fM b false))) (C := R_Mo) (T := F_Mo) (N := 18) hx hb hts i_Mo hown hK hP 0 rfl rfl 14 (by decide) (hts _ kw_306_) (fun _ h9 => h9) rfl d_Mo_narrowed_55 ?_
      refine nv_top (y := lN (fM b false / 2 ^ 0)) (congrArg lN (by rw [Nat.pow_zero, Nat.div_one])) ?_
      refine lv_lstore (lv' := [(5, .long (lN (fM b false / 2 ^ 0))), (3, .long (lN (if b / fS false % 2 = 1 then fS true else 0))), (0, .ref h0), (1, .long (lN (b)))]) hx hb d_Mo_narrowed_58 hl (by decide) rfl (fun ls hl => ?_)
      refine lv_aload_n hx hb d_Mo_narrowed_60 rfl (lv_at hl 2 rfl) ?_
      refine va_get (D := D) (ci := 5) (v := .int (iZ (fW b false))) (C := R_Mo) (T := F_Mo) (N := 18) hx hb hts i_Mo hown hK hP 0 rfl rfl 15 (by decide) (hts _ kw_305_) (fun _ h9 => h9) rfl d_Mo_narrowed_61 ?_
      refine zv_top (y := iZ (fW b false + ((0 : Nat) : Int))) (congrArg iZ (by omega)) ?_
      refine lv_istore (lv' := [(7, .int (iZ (fW b false + ((0 : Nat) : Int)))), (5, .long (lN (fM b false / 2 ^ 0))), (3, .long (lN (if b / fS false % 2 = 1 then fS true else 0))), (0, .ref h0), (1, .long (lN (b)))]) hx hb d_Mo_narrowed_64 hl (by decide) rfl (fun ls hl => ?_)
      refine lv_iconst (v := iZ (0)) hx hb d_Mo_narrowed_66 rfl ?_
      refine zv_top (y := bZ (sbM (fM b false) 0 = true)) ((bZ_f (by unfold sbM; simp)).symm) ?_
      refine lv_istore (lv' := [(8, .int (bZ (sbM (fM b false) 0 = true))), (7, .int (iZ (fW b false + ((0 : Nat) : Int)))), (5, .long (lN (fM b false / 2 ^ 0))), (3, .long (lN (if b / fS false % 2 = 1 then fS true else 0))), (0, .ref h0), (1, .long (lN (b)))]) hx hb d_Mo_narrowed_67 hl (by decide) rfl (fun ls hl => ?_)
      refine lv_iconst (v := iZ (0)) hx hb d_Mo_narrowed_69 rfl ?_
      refine zv_top (y := iZ (((lbM (fM b false) 0 : Nat) : Int))) (rfl) ?_
      refine lv_istore (lv' := [(9, .int (iZ (((lbM (fM b false) 0 : Nat) : Int)))), (8, .int (bZ (sbM (fM b false) 0 = true))), (7, .int (iZ (fW b false + ((0 : Nat) : Int)))), (5, .long (lN (fM b false / 2 ^ 0))), (3, .long (lN (if b / fS false % 2 = 1 then fS true else 0))), (0, .ref h0), (1, .long (lN (b)))]) hx hb d_Mo_narrowed_70 hl (by decide) rfl (fun ls hl => ?_)
      exact lp_Mo_narrowed_72 h0 th au al av ao ah ar ap t ng me mf mb mm ms mt mq mz b hb9 C0 hA hE (930 - 0 + 1) 0 _ _ _ (Nat.lt_succ_self _) (hfin) (by decide) (Or.inl rfl) (hK.sub [] rfl) (hP.sub [0] rfl) (hD.sub [0] (by decide) rfl) hS (lv_sub hl [5, 4, 3, 2, 1, 0] rfl)
    · have hs3 := hs2 c30
      refine lv_aload_n hx hb d_Mo_narrowed_33 rfl (lv_at hl 1 rfl) ?_
      refine va_get (D := D) (ci := 5) (v := .long (lN (fF b false))) (C := R_Mo) (T := F_Mo) (N := 18) hx hb hts i_Mo hown hK hP 0 rfl rfl 11 (by decide) (hts _ kw_311_) (fun _ h9 => h9) rfl d_Mo_narrowed_34 ?_
      refine lv_lconst (v := lN 0) hx hb d_Mo_narrowed_37 rfl ?_
      refine nv_lcmp_eq (tgt := 48) hx hb d_Mo_narrowed_38 d_Mo_narrowed_39 (by decide) (by omega) (by decide) (fun c38 => ?_) (fun c38 => ?_)
      · refine lv_lload_n hx hb d_Mo_narrowed_48 rfl (lv_at hl 0 rfl) ?_
        refine lv_ldc2 (v := (2139095040)) hx hb hown (hts _ kw_403_) d_Mo_narrowed_49 ?_
        refine nv_top (y := lN 2139095040) (by decide) ?_
        refine nv_lor hx hb d_Mo_narrowed_52 (by omega) (by decide) ?_
        refine nv_top (y := lN (narF b)) (congrArg lN (by rw [narF_inf (hs3.1.mp c38)]; exact sg_or (by decide))) ?_
        exact ew_l () hx hb hr hlocks d_Mo_narrowed_53 (show lN (narF b) = lN (narF b) from rfl) (hP.sub (ws' := [(h0, .inr (5, [.int (iZ (0)), .ref au, .ref al, .ref av, .ref ao, .ref ah, .ref ar, .ref ap, .int (iZ ((((t).length : Nat) : Int))), .int (bZ (fN b false = true)), .int (iZ (((fE b false : Nat) : Int))), .long (lN (fF b false)), .int (iZ (((fP false : Nat) : Int))), .int (iZ (((fMo false : Nat) : Int))), .long (lN (fM b false)), .int (iZ (fW b false)), .long (lN (mq)), .int (iZ (mz))]))]) [0] rfl) (hD.sub (ws' := [(h0, .inr (5, [.int (iZ (0)), .ref au, .ref al, .ref av, .ref ao, .ref ah, .ref ar, .ref ap, .int (iZ ((((t).length : Nat) : Int))), .int (bZ (fN b false = true)), .int (iZ (((fE b false : Nat) : Int))), .long (lN (fF b false)), .int (iZ (((fP false : Nat) : Int))), .int (iZ (((fMo false : Nat) : Int))), .long (lN (fM b false)), .int (iZ (fW b false)), .long (lN (mq)), .int (iZ (mz))]))]) [0] (by decide) rfl) (hK.sub (tys' := []) [] rfl) hS (Nat.le_of_ble_eq_true rfl) (Nat.le_of_ble_eq_true rfl)
      · refine lv_ldc2 (v := (2143289344)) hx hb hown (hts _ kw_404_) d_Mo_narrowed_42 ?_
        refine nv_top (y := lN 2143289344) (by decide) ?_
        refine lv_goto (tgt := 53) hx hb d_Mo_narrowed_45 (by decide) ?_
        exact ew_l () hx hb hr hlocks d_Mo_narrowed_53 (show lN (2143289344) = lN (narF b) from congrArg lN (narF_nan (by omega)).symm) (hP.sub (ws' := [(h0, .inr (5, [.int (iZ (0)), .ref au, .ref al, .ref av, .ref ao, .ref ah, .ref ar, .ref ap, .int (iZ ((((t).length : Nat) : Int))), .int (bZ (fN b false = true)), .int (iZ (((fE b false : Nat) : Int))), .long (lN (fF b false)), .int (iZ (((fP false : Nat) : Int))), .int (iZ (((fMo false : Nat) : Int))), .long (lN (fM b false)), .int (iZ (fW b false)), .long (lN (mq)), .int (iZ (mz))]))]) [0] rfl) (hD.sub (ws' := [(h0, .inr (5, [.int (iZ (0)), .ref au, .ref al, .ref av, .ref ao, .ref ah, .ref ar, .ref ap, .int (iZ ((((t).length : Nat) : Int))), .int (bZ (fN b false = true)), .int (iZ (((fE b false : Nat) : Int))), .long (lN (fF b false)), .int (iZ (((fP false : Nat) : Int))), .int (iZ (((fMo false : Nat) : Int))), .long (lN (fM b false)), .int (iZ (fW b false)), .long (lN (mq)), .int (iZ (mz))]))]) [0] (by decide) rfl) (hK.sub (tys' := []) [] rfl) hS (Nat.le_of_ble_eq_true rfl) (Nat.le_of_ble_eq_true rfl)
set_option maxHeartbeats 4000000 in
set_option maxRecDepth 100000 in
theorem c_Mo_narrowed (l : Launch) (D : va_G) (Z : Nat → Nat) (hz9 : Nat) (h0 : Nat) (th : Int) (au : Nat) (al : Nat) (av : Nat) (ao : Nat) (ah : Nat) (ar : Nat) (ap : Nat) (t : List Nat) (ng : Bool) (me : Nat) (mf : Nat) (mb : Nat) (mm : Nat) (ms : Nat) (mt : Int) (mq : Nat) (mz : Int) (b : Nat) (hb9 : b < 18446744073709551616) : Met l y_Mo_narrowed (.code y_Mo_narrowed b_Mo_narrowed 10 (some .long) :: gT) ({ frames := 1, cells := 0, slots := 0, locals := 23 } : Room) (va_Pc [.ref h0, .long (lN (b))] (cpre D Z [(h0, .inr (5, [.int (iZ (th)), .ref au, .ref al, .ref av, .ref ao, .ref ah, .ref ar, .ref ap, .int (iZ ((((t).length : Nat) : Int))), .int (bZ (ng = true)), .int (iZ (((me : Nat) : Int))), .long (lN (mf)), .int (iZ (((mb : Nat) : Int))), .int (iZ (((mm : Nat) : Int))), .long (lN (ms)), .int (iZ (mt)), .long (lN (mq)), .int (iZ (mz))]))] [] hz9)) (Qc_Mo_narrowed D h0 th au al av ao ah ar ap t ng me mf mb mm ms mt mq mz b (va_A [(h0, .inr (5, [.int (iZ (th)), .ref au, .ref al, .ref av, .ref ao, .ref ah, .ref ar, .ref ap, .int (iZ ((((t).length : Nat) : Int))), .int (bZ (ng = true)), .int (iZ (((me : Nat) : Int))), .long (lN (mf)), .int (iZ (((mb : Nat) : Int))), .int (iZ (((mm : Nat) : Int))), .long (lN (ms)), .int (iZ (mt)), .long (lN (mq)), .int (iZ (mz))]))] hz9)) 0 0 (va_A [(h0, .inr (5, [.int (iZ (th)), .ref au, .ref al, .ref av, .ref ao, .ref ah, .ref ar, .ref ap, .int (iZ ((((t).length : Nat) : Int))), .int (bZ (ng = true)), .int (iZ (((me : Nat) : Int))), .long (lN (mf)), .int (iZ (((mb : Nat) : Int))), .int (iZ (((mm : Nat) : Int))), .long (lN (ms)), .int (iZ (mt)), .long (lN (mq)), .int (iZ (mz))]))] hz9) := by
  refine met_go (Qf := Qc_Mo_narrowed D h0 th au al av ao ah ar ap t ng me mf mb mm ms mt mq mz b) (ff := fun A => A) (by decide) ?_
  intro p e s m below meth c A C0 hin hsz9 hA hE hK hP hD
  obtain ⟨hx, hb, hml, hown, hts, hr, hlocks⟩ := id C0
  have hS : va_S A s.heap s.heap [] := va_S.rf
  have hl := lv_entry [.ref h0, .long (lN (b))] (n := 10) (Nat.le_of_ble_eq_true rfl)
  rw [lg_entry_eq]
  generalize (lg_sl [.ref h0, .long (lN (b))] ++ List.replicate (10 - (lg_sl [.ref h0, .long (lN (b))]).length) Slot.unset).toArray = ls at hl ⊢
  have hl : lv_has ls 10 [(0, .ref h0), (1, .long (lN (b)))] := hl
  have hfe := fE_lt b false
  have hmo := fMo_lt false
  have hff := fF_lt b false
  have hpp := fP_pow false
  have hfi := fin_iff b false
  obtain ⟨hs1, hs2⟩ := sz_facts b false
  have hfn := fN_iff b false
  have hmm := fM_lt b false
  have hsgl : (if b / fS false % 2 = 1 then fS true else 0) < 18446744073709551616 := by split <;> decide
  refine lv_aload_n hx hb d_Mo_narrowed_0 rfl (lv_at hl 0 rfl) ?_
  refine lv_iconst (v := iZ (0)) hx hb d_Mo_narrowed_1 rfl ?_
  refine va_put (D := D) (ci := 5) (v := .int (iZ (0))) (ty := .int) (C := R_Mo) (T := F_Mo) (N := 18) hx hb hts i_Mo t_Mo t_Mo_ok n_Mo hown hK hP hD hS 0 rfl rfl 0 (by decide) (hts _ kw_304_) (fun _ h9 => h9) rfl (by decide +kernel) rfl rfl (Nat.le_of_ble_eq_true rfl) d_Mo_narrowed_2 (fun H locs hP hD hS => ?_)
  have hP : va_P D classes [(h0, .inr (5, [.int (iZ (0)), .ref au, .ref al, .ref av, .ref ao, .ref ah, .ref ar, .ref ap, .int (iZ ((((t).length : Nat) : Int))), .int (bZ (ng = true)), .int (iZ (((me : Nat) : Int))), .long (lN (mf)), .int (iZ (((mb : Nat) : Int))), .int (iZ (((mm : Nat) : Int))), .long (lN (ms)), .int (iZ (mt)), .long (lN (mq)), .int (iZ (mz))]))] H := hP
  have hD : va_D A [(h0, .inr (5, [.int (iZ (0)), .ref au, .ref al, .ref av, .ref ao, .ref ah, .ref ar, .ref ap, .int (iZ ((((t).length : Nat) : Int))), .int (bZ (ng = true)), .int (iZ (((me : Nat) : Int))), .long (lN (mf)), .int (iZ (((mb : Nat) : Int))), .int (iZ (((mm : Nat) : Int))), .long (lN (ms)), .int (iZ (mt)), .long (lN (mq)), .int (iZ (mz))]))] := hD
  refine lv_aload_n hx hb d_Mo_narrowed_5 rfl (lv_at hl 0 rfl) ?_
  refine lv_lload_n hx hb d_Mo_narrowed_6 rfl (lv_at hl 1 rfl) ?_
  refine lv_iconst (v := iZ (0)) hx hb d_Mo_narrowed_7 rfl ?_
  refine zv_top (y := bZ (false = true)) ((bZ_f (by decide)).symm) ?_
  refine kw_v (wr := []) (tr := []) (kr_V (C0 := R_Mo) (ci := 5) (i0 := 0) (As := [.long (lN (b)), .int (bZ (false = true))]) (rest := []) C0 (c_Mo_open l D Z _ h0 0 au al av ao ah ar ap t ng me mf mb mm ms mt mq mz b false (by assumption) (fun q => absurd q (by decide))) q_y_Mo_open kw_366_ kw_367_ kw_368_ kw_314_ hd_y_Mo_open rfl rfl ⟨Nat.le_of_ble_eq_true rfl, Nat.le_of_ble_eq_true rfl⟩ (hP.sub (ws' := [(h0, .inr (5, [.int (iZ (0)), .ref au, .ref al, .ref av, .ref ao, .ref ah, .ref ar, .ref ap, .int (iZ ((((t).length : Nat) : Int))), .int (bZ (ng = true)), .int (iZ (((me : Nat) : Int))), .long (lN (mf)), .int (iZ (((mb : Nat) : Int))), .int (iZ (((mm : Nat) : Int))), .long (lN (ms)), .int (iZ (mt)), .long (lN (mq)), .int (iZ (mz))]))]) [0] rfl) (hD.sub (ws' := [(h0, .inr (5, [.int (iZ (0)), .ref au, .ref al, .ref av, .ref ao, .ref ah, .ref ar, .ref ap, .int (iZ ((((t).length : Nat) : Int))), .int (bZ (ng = true)), .int (iZ (((me : Nat) : Int))), .long (lN (mf)), .int (iZ (((mb : Nat) : Int))), .int (iZ (((mm : Nat) : Int))), .long (lN (ms)), .int (iZ (mt)), .long (lN (mq)), .int (iZ (mz))]))]) [0] (by decide) rfl) (hK.sub (tys' := []) [] rfl) hE hS (va_free (wc := [(h0, .inr (5, [.int (iZ (0)), .ref au, .ref al, .ref av, .ref ao, .ref ah, .ref ar, .ref ap, .int (iZ ((((t).length : Nat) : Int))), .int (bZ (ng = true)), .int (iZ (((me : Nat) : Int))), .long (lN (mf)), .int (iZ (((mb : Nat) : Int))), .int (iZ (((mm : Nat) : Int))), .long (lN (ms)), .int (iZ (mt)), .long (lN (mq)), .int (iZ (mz))]))]) hD hS hA [0] rfl) rfl rfl rfl hl.1 rfl (Nat.le_of_ble_eq_true rfl) d_Mo_narrowed_8 ⟨Nat.le_of_ble_eq_true rfl, Nat.le_of_ble_eq_true rfl⟩) hP hD hK hS hA [0] [] [] rfl rfl (by decide) (by decide) rfl (fun u H locs hpost hP hD hK hS => ?_)
  have hP : va_P D classes [(h0, .inr (5, [.int (iZ (0)), .ref au, .ref al, .ref av, .ref ao, .ref ah, .ref ar, .ref ap, .int (iZ ((((t).length : Nat) : Int))), .int (bZ (fN b false = true)), .int (iZ (((fE b false : Nat) : Int))), .long (lN (fF b false)), .int (iZ (((fP false : Nat) : Int))), .int (iZ (((fMo false : Nat) : Int))), .long (lN (fM b false)), .int (iZ (fW b false)), .long (lN (mq)), .int (iZ (mz))]))] H := hP
  have hD : va_D A [(h0, .inr (5, [.int (iZ (0)), .ref au, .ref al, .ref av, .ref ao, .ref ah, .ref ar, .ref ap, .int (iZ ((((t).length : Nat) : Int))), .int (bZ (fN b false = true)), .int (iZ (((fE b false : Nat) : Int))), .long (lN (fF b false)), .int (iZ (((fP false : Nat) : Int))), .int (iZ (((fMo false : Nat) : Int))), .long (lN (fM b false)), .int (iZ (fW b false)), .long (lN (mq)), .int (iZ (mz))]))] := hD
  have hK : va_K D classes [] s := hK
  refine lv_aload_n hx hb d_Mo_narrowed_11 rfl (lv_at hl 0 rfl) ?_
  refine va_get (D := D) (ci := 5) (v := .int (bZ (fN b false = true))) (C := R_Mo) (T := F_Mo) (N := 18) hx hb hts i_Mo hown hK hP 0 rfl rfl 9 (by decide) (hts _ kw_308_) (fun _ h9 => h9) rfl d_Mo_narrowed_12 ?_
  refine bv_if_eq (tgt := 24) hx hb d_Mo_narrowed_15 (by decide) (fun c15 => ?_) (fun c15 => ?_)
  · refine lv_lconst (v := lN 0) hx hb d_Mo_narrowed_24 rfl ?_
    refine nv_top (y := lN (if b / fS false % 2 = 1 then fS true else 0)) (congrArg lN (by rw [if_neg (fun q => c15 (hfn.mpr q))])) ?_
    exact lp_Mo_narrowed_25 h0 th au al av ao ah ar ap t ng me mf mb mm ms mt mq mz b hb9 C0 hA hE (0 + 1)  _ _ _ (Nat.lt_succ_self _)  (hK.sub [] rfl) (hP.sub [0] rfl) (hD.sub [0] (by decide) rfl) hS (lv_sub hl [0, 1] rfl)
  · refine lv_ldc2 (v := (2147483648)) hx hb hown (hts _ kw_405_) d_Mo_narrowed_18 ?_
    refine nv_top (y := lN 2147483648) (by decide) ?_
    refine nv_top (y := lN (if b / fS false % 2 = 1 then fS true else 0)) (congrArg lN (by rw [if_pos (hfn.mp c15)]; rfl)) ?_
    refine lv_goto (tgt := 25) hx hb d_Mo_narrowed_21 (by decide) ?_
    exact lp_Mo_narrowed_25 h0 th au al av ao ah ar ap t ng me mf mb mm ms mt mq mz b hb9 C0 hA hE (0 + 1)  _ _ _ (Nat.lt_succ_self _)  (hK.sub [] rfl) (hP.sub [0] rfl) (hD.sub [0] (by decide) rfl) hS (lv_sub hl [0, 1] rfl)
