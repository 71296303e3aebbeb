theorem kw_33_ : Cond.constantLong R_Big 24 (1000000000) ∈ gT := gT_in 366 (by decide +kernel) (by decide +kernel)
theorem kw_34_ : Cond.methodLink R_Big 21 y_Big_multiply ∈ gT := gT_in 362 (by decide +kernel) (by decide +kernel)
theorem kw_35_ : Cond.instanceMethod y_Big_multiply ∈ gT := gT_in 363 (by decide +kernel) (by decide +kernel)
theorem kw_36_ : Cond.selects R_Big y_Big_multiply y_Big_multiply ∈ gT := gT_in 364 (by decide +kernel) (by decide +kernel)
theorem kw_37_ : Cond.methodLink R_Big 26 Lib.Math.min.name ∈ gT := gT_in 361 (by decide +kernel) (by decide +kernel)
theorem kw_38_ : Cond.static Lib.Math.min.name ∈ gT := gT_in 179 (by decide +kernel) (by decide +kernel)
theorem kw_39_ : Cond.constantLong R_Big 34 (5) ∈ gT := gT_in 372 (by decide +kernel) (by decide +kernel)
theorem kw_40_ : Cond.constantLong R_Big 32 (298023223876953125) ∈ gT := gT_in 371 (by decide +kernel) (by decide +kernel)
set_option maxRecDepth 100000 in
theorem q_y_Big_multiply : Cond.code y_Big_multiply b_Big_multiply 16 none ∈ gT := gT_in 365 rfl rfl
theorem q_Lib_Math_min_name : Cond.code Lib.Math.min.name Lib.Math.min.code 2 (some .int) ∈ gT := gT_in 180 (by decide +kernel) rfl
theorem hd_y_Big_multiply : y_Big_multiply.cls ≠ "java/lang/invoke/MethodHandle" ∧ y_Big_multiply.cls ≠ "java/lang/invoke/VarHandle" ∧ (parseMethodDescriptor y_Big_multiply.desc).map (fun d => d.parameters.length) = some 1 := by decide +kernel
theorem d_Big_multiply_0 : decode b_Big_multiply 0 = .ok (.lload_n 1, 1) := by decide +kernel
theorem d_Big_multiply_1 : decode b_Big_multiply 1 = .ok (.lconst 0, 1) := by decide +kernel
theorem d_Big_multiply_2 : decode b_Big_multiply 2 = .ok (.lcmp, 1) := by decide +kernel
theorem d_Big_multiply_3 : decode b_Big_multiply 3 = .ok (.ifCond .ne 9, 3) := by decide +kernel
theorem d_Big_multiply_6 : decode b_Big_multiply 6 = .ok (.aload_n 0, 1) := by decide +kernel
theorem d_Big_multiply_7 : decode b_Big_multiply 7 = .ok (.iconst 0, 1) := by decide +kernel
theorem d_Big_multiply_8 : decode b_Big_multiply 8 = .ok (.putfield 13, 3) := by decide +kernel
theorem d_Big_multiply_11 : decode b_Big_multiply 11 = .ok (.return_, 1) := by decide +kernel
theorem d_Big_multiply_12 : decode b_Big_multiply 12 = .ok (.lload_n 1, 1) := by decide +kernel
theorem d_Big_multiply_13 : decode b_Big_multiply 13 = .ok (.ldc2_w 24, 3) := by decide +kernel
theorem d_Big_multiply_16 : decode b_Big_multiply 16 = .ok (.ldiv, 1) := by decide +kernel
theorem d_Big_multiply_17 : decode b_Big_multiply 17 = .ok (.lstore_n 3, 1) := by decide +kernel
theorem d_Big_multiply_18 : decode b_Big_multiply 18 = .ok (.lload_n 1, 1) := by decide +kernel
theorem d_Big_multiply_19 : decode b_Big_multiply 19 = .ok (.ldc2_w 24, 3) := by decide +kernel
theorem d_Big_multiply_22 : decode b_Big_multiply 22 = .ok (.lrem, 1) := by decide +kernel
theorem d_Big_multiply_23 : decode b_Big_multiply 23 = .ok (.lstore 5, 2) := by decide +kernel
theorem d_Big_multiply_25 : decode b_Big_multiply 25 = .ok (.lconst 0, 1) := by decide +kernel
theorem d_Big_multiply_26 : decode b_Big_multiply 26 = .ok (.lstore 7, 2) := by decide +kernel
theorem d_Big_multiply_28 : decode b_Big_multiply 28 = .ok (.lconst 0, 1) := by decide +kernel
theorem d_Big_multiply_29 : decode b_Big_multiply 29 = .ok (.lstore 9, 2) := by decide +kernel
theorem d_Big_multiply_31 : decode b_Big_multiply 31 = .ok (.iconst 0, 1) := by decide +kernel
theorem d_Big_multiply_32 : decode b_Big_multiply 32 = .ok (.istore 11, 2) := by decide +kernel
theorem d_Big_multiply_34 : decode b_Big_multiply 34 = .ok (.iload 11, 2) := by decide +kernel
theorem d_Big_multiply_36 : decode b_Big_multiply 36 = .ok (.aload_n 0, 1) := by decide +kernel
theorem d_Big_multiply_37 : decode b_Big_multiply 37 = .ok (.getfield 13, 3) := by decide +kernel
theorem d_Big_multiply_40 : decode b_Big_multiply 40 = .ok (.if_icmp .ge 61, 3) := by decide +kernel
theorem d_Big_multiply_43 : decode b_Big_multiply 43 = .ok (.aload_n 0, 1) := by decide +kernel
theorem d_Big_multiply_44 : decode b_Big_multiply 44 = .ok (.getfield 9, 3) := by decide +kernel
theorem d_Big_multiply_47 : decode b_Big_multiply 47 = .ok (.iload 11, 2) := by decide +kernel
theorem d_Big_multiply_49 : decode b_Big_multiply 49 = .ok (.laload, 1) := by decide +kernel
theorem d_Big_multiply_50 : decode b_Big_multiply 50 = .ok (.lstore 12, 2) := by decide +kernel
theorem d_Big_multiply_52 : decode b_Big_multiply 52 = .ok (.lload 12, 2) := by decide +kernel
theorem d_Big_multiply_54 : decode b_Big_multiply 54 = .ok (.lload 5, 2) := by decide +kernel
theorem d_Big_multiply_56 : decode b_Big_multiply 56 = .ok (.lmul, 1) := by decide +kernel
theorem d_Big_multiply_57 : decode b_Big_multiply 57 = .ok (.lload 7, 2) := by decide +kernel
theorem d_Big_multiply_59 : decode b_Big_multiply 59 = .ok (.lload_n 3, 1) := by decide +kernel
theorem d_Big_multiply_60 : decode b_Big_multiply 60 = .ok (.lmul, 1) := by decide +kernel
theorem d_Big_multiply_61 : decode b_Big_multiply 61 = .ok (.ladd, 1) := by decide +kernel
theorem d_Big_multiply_62 : decode b_Big_multiply 62 = .ok (.lload 9, 2) := by decide +kernel
theorem d_Big_multiply_64 : decode b_Big_multiply 64 = .ok (.ladd, 1) := by decide +kernel
theorem d_Big_multiply_65 : decode b_Big_multiply 65 = .ok (.lstore 14, 2) := by decide +kernel
theorem d_Big_multiply_67 : decode b_Big_multiply 67 = .ok (.lload 14, 2) := by decide +kernel
theorem d_Big_multiply_69 : decode b_Big_multiply 69 = .ok (.ldc2_w 24, 3) := by decide +kernel
theorem d_Big_multiply_72 : decode b_Big_multiply 72 = .ok (.ldiv, 1) := by decide +kernel
theorem d_Big_multiply_73 : decode b_Big_multiply 73 = .ok (.lstore 9, 2) := by decide +kernel
theorem d_Big_multiply_75 : decode b_Big_multiply 75 = .ok (.aload_n 0, 1) := by decide +kernel
theorem d_Big_multiply_76 : decode b_Big_multiply 76 = .ok (.getfield 9, 3) := by decide +kernel
theorem d_Big_multiply_79 : decode b_Big_multiply 79 = .ok (.iload 11, 2) := by decide +kernel
theorem d_Big_multiply_81 : decode b_Big_multiply 81 = .ok (.lload 14, 2) := by decide +kernel
theorem d_Big_multiply_83 : decode b_Big_multiply 83 = .ok (.lload 9, 2) := by decide +kernel
theorem d_Big_multiply_85 : decode b_Big_multiply 85 = .ok (.ldc2_w 24, 3) := by decide +kernel
theorem d_Big_multiply_88 : decode b_Big_multiply 88 = .ok (.lmul, 1) := by decide +kernel
theorem d_Big_multiply_89 : decode b_Big_multiply 89 = .ok (.lsub, 1) := by decide +kernel
theorem d_Big_multiply_90 : decode b_Big_multiply 90 = .ok (.lastore, 1) := by decide +kernel
theorem d_Big_multiply_91 : decode b_Big_multiply 91 = .ok (.lload 12, 2) := by decide +kernel
theorem d_Big_multiply_93 : decode b_Big_multiply 93 = .ok (.lstore 7, 2) := by decide +kernel
theorem d_Big_multiply_95 : decode b_Big_multiply 95 = .ok (.iinc 11 1, 3) := by decide +kernel
theorem d_Big_multiply_98 : decode b_Big_multiply 98 = .ok (.goto (-64), 3) := by decide +kernel
theorem d_Big_multiply_101 : decode b_Big_multiply 101 = .ok (.lload 7, 2) := by decide +kernel
theorem d_Big_multiply_103 : decode b_Big_multiply 103 = .ok (.lload_n 3, 1) := by decide +kernel
theorem d_Big_multiply_104 : decode b_Big_multiply 104 = .ok (.lmul, 1) := by decide +kernel
theorem d_Big_multiply_105 : decode b_Big_multiply 105 = .ok (.lload 9, 2) := by decide +kernel
theorem d_Big_multiply_107 : decode b_Big_multiply 107 = .ok (.ladd, 1) := by decide +kernel
theorem d_Big_multiply_108 : decode b_Big_multiply 108 = .ok (.lstore 11, 2) := by decide +kernel
theorem d_Big_multiply_110 : decode b_Big_multiply 110 = .ok (.iconst 0, 1) := by decide +kernel
theorem d_Big_multiply_111 : decode b_Big_multiply 111 = .ok (.istore 13, 2) := by decide +kernel
theorem d_Big_multiply_113 : decode b_Big_multiply 113 = .ok (.iload 13, 2) := by decide +kernel
theorem d_Big_multiply_115 : decode b_Big_multiply 115 = .ok (.iconst 2, 1) := by decide +kernel
theorem d_Big_multiply_116 : decode b_Big_multiply 116 = .ok (.if_icmp .ge 34, 3) := by decide +kernel
theorem d_Big_multiply_119 : decode b_Big_multiply 119 = .ok (.lload 11, 2) := by decide +kernel
theorem d_Big_multiply_121 : decode b_Big_multiply 121 = .ok (.lconst 0, 1) := by decide +kernel
theorem d_Big_multiply_122 : decode b_Big_multiply 122 = .ok (.lcmp, 1) := by decide +kernel
theorem d_Big_multiply_123 : decode b_Big_multiply 123 = .ok (.ifCond .eq 27, 3) := by decide +kernel
theorem d_Big_multiply_126 : decode b_Big_multiply 126 = .ok (.aload_n 0, 1) := by decide +kernel
theorem d_Big_multiply_127 : decode b_Big_multiply 127 = .ok (.lload 11, 2) := by decide +kernel
theorem d_Big_multiply_129 : decode b_Big_multiply 129 = .ok (.ldc2_w 24, 3) := by decide +kernel
theorem d_Big_multiply_132 : decode b_Big_multiply 132 = .ok (.lrem, 1) := by decide +kernel
theorem d_Big_multiply_133 : decode b_Big_multiply 133 = .ok (.invokevirtual 17, 3) := by decide +kernel
theorem d_Big_multiply_136 : decode b_Big_multiply 136 = .ok (.lload 11, 2) := by decide +kernel
theorem d_Big_multiply_138 : decode b_Big_multiply 138 = .ok (.ldc2_w 24, 3) := by decide +kernel
theorem d_Big_multiply_141 : decode b_Big_multiply 141 = .ok (.ldiv, 1) := by decide +kernel
theorem d_Big_multiply_142 : decode b_Big_multiply 142 = .ok (.lstore 11, 2) := by decide +kernel
theorem d_Big_multiply_144 : decode b_Big_multiply 144 = .ok (.iinc 13 1, 3) := by decide +kernel
theorem d_Big_multiply_147 : decode b_Big_multiply 147 = .ok (.goto (-34), 3) := by decide +kernel
theorem d_Big_multiply_150 : decode b_Big_multiply 150 = .ok (.return_, 1) := by decide +kernel
theorem d_Big_setToProduct_0 : decode b_Big_setToProduct 0 = .ok (.aload_n 0, 1) := by decide +kernel
theorem d_Big_setToProduct_1 : decode b_Big_setToProduct 1 = .ok (.iconst 0, 1) := by decide +kernel
theorem d_Big_setToProduct_2 : decode b_Big_setToProduct 2 = .ok (.putfield 13, 3) := by decide +kernel
theorem d_Big_setToProduct_5 : decode b_Big_setToProduct 5 = .ok (.iconst 0, 1) := by decide +kernel
theorem d_Big_setToProduct_6 : decode b_Big_setToProduct 6 = .ok (.istore 4, 2) := by decide +kernel
theorem d_Big_setToProduct_8 : decode b_Big_setToProduct 8 = .ok (.iload 4, 2) := by decide +kernel
theorem d_Big_setToProduct_10 : decode b_Big_setToProduct 10 = .ok (.aload_n 1, 1) := by decide +kernel
theorem d_Big_setToProduct_11 : decode b_Big_setToProduct 11 = .ok (.getfield 13, 3) := by decide +kernel
theorem d_Big_setToProduct_14 : decode b_Big_setToProduct 14 = .ok (.if_icmp .ge 20, 3) := by decide +kernel
theorem d_Big_setToProduct_17 : decode b_Big_setToProduct 17 = .ok (.aload_n 0, 1) := by decide +kernel
theorem d_Big_setToProduct_18 : decode b_Big_setToProduct 18 = .ok (.aload_n 1, 1) := by decide +kernel
theorem d_Big_setToProduct_19 : decode b_Big_setToProduct 19 = .ok (.getfield 9, 3) := by decide +kernel
theorem d_Big_setToProduct_22 : decode b_Big_setToProduct 22 = .ok (.iload 4, 2) := by decide +kernel
theorem d_Big_setToProduct_24 : decode b_Big_setToProduct 24 = .ok (.laload, 1) := by decide +kernel
theorem d_Big_setToProduct_25 : decode b_Big_setToProduct 25 = .ok (.invokevirtual 17, 3) := by decide +kernel
theorem d_Big_setToProduct_28 : decode b_Big_setToProduct 28 = .ok (.iinc 4 1, 3) := by decide +kernel
theorem d_Big_setToProduct_31 : decode b_Big_setToProduct 31 = .ok (.goto (-23), 3) := by decide +kernel
theorem d_Big_setToProduct_34 : decode b_Big_setToProduct 34 = .ok (.aload_n 0, 1) := by decide +kernel
theorem d_Big_setToProduct_35 : decode b_Big_setToProduct 35 = .ok (.lload_n 2, 1) := by decide +kernel
theorem d_Big_setToProduct_36 : decode b_Big_setToProduct 36 = .ok (.invokevirtual 21, 3) := by decide +kernel
theorem d_Big_setToProduct_39 : decode b_Big_setToProduct 39 = .ok (.return_, 1) := by decide +kernel
theorem d_Big_multiplyByTwos_0 : decode b_Big_multiplyByTwos 0 = .ok (.iload_n 1, 1) := by decide +kernel
theorem d_Big_multiplyByTwos_1 : decode b_Big_multiplyByTwos 1 = .ok (.istore_n 2, 1) := by decide +kernel
theorem d_Big_multiplyByTwos_2 : decode b_Big_multiplyByTwos 2 = .ok (.iload_n 2, 1) := by decide +kernel
theorem d_Big_multiplyByTwos_3 : decode b_Big_multiplyByTwos 3 = .ok (.ifCond .le 21, 3) := by decide +kernel
theorem d_Big_multiplyByTwos_6 : decode b_Big_multiplyByTwos 6 = .ok (.aload_n 0, 1) := by decide +kernel
theorem d_Big_multiplyByTwos_7 : decode b_Big_multiplyByTwos 7 = .ok (.lconst 1, 1) := by decide +kernel
theorem d_Big_multiplyByTwos_8 : decode b_Big_multiplyByTwos 8 = .ok (.iload_n 2, 1) := by decide +kernel
theorem d_Big_multiplyByTwos_9 : decode b_Big_multiplyByTwos 9 = .ok (.bipush 59, 2) := by decide +kernel
theorem d_Big_multiplyByTwos_11 : decode b_Big_multiplyByTwos 11 = .ok (.invokestatic 26, 3) := by decide +kernel
theorem d_Big_multiplyByTwos_14 : decode b_Big_multiplyByTwos 14 = .ok (.lshl, 1) := by decide +kernel
theorem d_Big_multiplyByTwos_15 : decode b_Big_multiplyByTwos 15 = .ok (.invokevirtual 21, 3) := by decide +kernel
theorem d_Big_multiplyByTwos_18 : decode b_Big_multiplyByTwos 18 = .ok (.iinc 2 (-59), 3) := by decide +kernel
theorem d_Big_multiplyByTwos_21 : decode b_Big_multiplyByTwos 21 = .ok (.goto (-19), 3) := by decide +kernel
theorem d_Big_multiplyByTwos_24 : decode b_Big_multiplyByTwos 24 = .ok (.return_, 1) := by decide +kernel
theorem d_Big_multiplyByFives_0 : decode b_Big_multiplyByFives 0 = .ok (.iload_n 1, 1) := by decide +kernel
theorem d_Big_multiplyByFives_1 : decode b_Big_multiplyByFives 1 = .ok (.istore_n 2, 1) := by decide +kernel
theorem d_Big_multiplyByFives_2 : decode b_Big_multiplyByFives 2 = .ok (.iload_n 2, 1) := by decide +kernel
theorem d_Big_multiplyByFives_3 : decode b_Big_multiplyByFives 3 = .ok (.bipush 25, 2) := by decide +kernel
theorem d_Big_multiplyByFives_5 : decode b_Big_multiplyByFives 5 = .ok (.if_icmp .lt 16, 3) := by decide +kernel
theorem d_Big_multiplyByFives_8 : decode b_Big_multiplyByFives 8 = .ok (.aload_n 0, 1) := by decide +kernel
theorem d_Big_multiplyByFives_9 : decode b_Big_multiplyByFives 9 = .ok (.ldc2_w 32, 3) := by decide +kernel
theorem d_Big_multiplyByFives_12 : decode b_Big_multiplyByFives 12 = .ok (.invokevirtual 21, 3) := by decide +kernel
theorem d_Big_multiplyByFives_15 : decode b_Big_multiplyByFives 15 = .ok (.iinc 2 (-25), 3) := by decide +kernel
theorem d_Big_multiplyByFives_18 : decode b_Big_multiplyByFives 18 = .ok (.goto (-16), 3) := by decide +kernel
theorem d_Big_multiplyByFives_21 : decode b_Big_multiplyByFives 21 = .ok (.lconst 1, 1) := by decide +kernel
theorem d_Big_multiplyByFives_22 : decode b_Big_multiplyByFives 22 = .ok (.lstore_n 2, 1) := by decide +kernel
theorem d_Big_multiplyByFives_23 : decode b_Big_multiplyByFives 23 = .ok (.iconst 0, 1) := by decide +kernel
theorem d_Big_multiplyByFives_24 : decode b_Big_multiplyByFives 24 = .ok (.istore 4, 2) := by decide +kernel
theorem d_Big_multiplyByFives_26 : decode b_Big_multiplyByFives 26 = .ok (.iload 4, 2) := by decide +kernel
theorem d_Big_multiplyByFives_28 : decode b_Big_multiplyByFives 28 = .ok (.iload_n 1, 1) := by decide +kernel
theorem d_Big_multiplyByFives_29 : decode b_Big_multiplyByFives 29 = .ok (.bipush 25, 2) := by decide +kernel
theorem d_Big_multiplyByFives_31 : decode b_Big_multiplyByFives 31 = .ok (.irem, 1) := by decide +kernel
theorem d_Big_multiplyByFives_32 : decode b_Big_multiplyByFives 32 = .ok (.if_icmp .ge 15, 3) := by decide +kernel
theorem d_Big_multiplyByFives_35 : decode b_Big_multiplyByFives 35 = .ok (.lload_n 2, 1) := by decide +kernel
theorem d_Big_multiplyByFives_36 : decode b_Big_multiplyByFives 36 = .ok (.ldc2_w 34, 3) := by decide +kernel
theorem d_Big_multiplyByFives_39 : decode b_Big_multiplyByFives 39 = .ok (.lmul, 1) := by decide +kernel
theorem d_Big_multiplyByFives_40 : decode b_Big_multiplyByFives 40 = .ok (.lstore_n 2, 1) := by decide +kernel
theorem d_Big_multiplyByFives_41 : decode b_Big_multiplyByFives 41 = .ok (.iinc 4 1, 3) := by decide +kernel
theorem d_Big_multiplyByFives_44 : decode b_Big_multiplyByFives 44 = .ok (.goto (-18), 3) := by decide +kernel
theorem d_Big_multiplyByFives_47 : decode b_Big_multiplyByFives 47 = .ok (.aload_n 0, 1) := by decide +kernel
theorem d_Big_multiplyByFives_48 : decode b_Big_multiplyByFives 48 = .ok (.lload_n 2, 1) := by decide +kernel
theorem d_Big_multiplyByFives_49 : decode b_Big_multiplyByFives 49 = .ok (.invokevirtual 21, 3) := by decide +kernel
theorem d_Big_multiplyByFives_52 : decode b_Big_multiplyByFives 52 = .ok (.return_, 1) := by decide +kernel
abbrev Qc_Big_multiply (D : va_G) (h0 : Nat) (q0 : Nat) (cA0 : ClassId) (f : Nat → Int64) (n : Nat) (v : Nat) (F : Nat) (A : Nat → Prop) : Array Value → State → Outcome → State → Prop := va_Qv (fun u : (Nat → Int64) × Nat => BigIs (u.1) (u.2) (v * F)) (fun (u : (Nat → Int64) × Nat) t9 => cpost D A [(h0, .inr (2, [.ref q0, .int (iZ ((((u.2) : Nat) : Int)))])), (q0, .inl (cA0, 124, .inr (.inl ((u.1)))))] [(cA0, .long)] t9) A
set_option maxHeartbeats 4000000 in
set_option maxRecDepth 100000 in
theorem lp_Big_multiply_113 {p : Program} {l : Launch} {e : Env} {s : State} {m : MethodId} {args : Array Value} {below : List Frame} {meth : Method} {c : Code} {A : Nat → Prop} {D : va_G} {Z : Nat → Nat} (h0 : Nat) (q0 : Nat) (cA0 : ClassId) (f : Nat → Int64) (n : Nat) (v : Nat) (F : Nat) (hB : BigIs f n v) (hF : F ≤ 1000000000000000000) (hvF : v * F < 1000000000 ^ 124) (C0 : cxA p s m args meth c b_Big_multiply 16 R_Big none) (hA : ∀ q : Nat, s.heap.size ≤ q → A q) (hE : Ev Z A s s.heap) : ∀ (N : Nat) (k : Nat) (rs : Nat) (g : Nat → Int64) (H : Heap) (locs : List Loc) (ls : Array Slot), 2 - k < N → (k ≤ 2) → (rs = v * F / 1000000000 ^ (n + k)) → (rs < 9223372036854775808) → (∀ j, j < n + k → g j = lN (dg (v * F) j)) → (n + k = 0 ∨ 1000000000 ^ (n + k - 1) ≤ v * F) → va_K D classes [(cA0, .long)] s → va_P D classes [(h0, .inr (2, [.ref q0, .int (iZ (((n + k : Nat) : Int)))])), (q0, .inl (cA0, 124, .inr (.inl g)))] H → va_D A [(h0, .inr (2, [.ref q0, .int (iZ (((n + k : Nat) : Int)))])), (q0, .inl (cA0, 124, .inr (.inl g)))] → va_S A s.heap H locs → lv_has ls 16 [(0, .ref h0), (11, .long (lN (rs))), (13, .int (iZ (((k : Nat) : Int))))] → W p l e ({ frames := 1, cells := 0, slots := 0, locals := 22 } : Room) s m args below meth c H locs 0 0 (MQ below (Qc_Big_multiply D h0 q0 cA0 f n v F A) args s 0 0 A) (F0 m 113 ls []) := by
  obtain ⟨hx, hb, hml, hown, hts, hr, hlocks⟩ := id C0
  intro N
  induction N with
  | zero => intro k rs g H locs ls hN; exact absurd hN (Nat.not_lt_zero _)
  | succ N ih =>
    intro k rs g H locs ls hN hk hrs hrb hg ht hK hP hD hS hl
    refine lv_iload hx hb d_Big_multiply_113 (lv_at hl 2 rfl) ?_
    refine lv_iconst (v := iZ (2)) hx hb d_Big_multiply_115 rfl ?_
    refine zv_icmp_ge (tgt := 150) hx hb d_Big_multiply_116 (by decide) (by omega) (by omega) (fun c116 => ?_) (fun c116 => ?_)
    · have hr0 : v * F / 1000000000 ^ (n + k) = 0 := by
        obtain rfl : k = 2 := by omega
        exact prod_end hB hF
      exact ew_v (g, n + k) hx hb hr hlocks d_Big_multiply_150 (show BigIs g (n + k) (v * F) from big_end hg hr0 ht hvF) (hP.sub (ws' := [(h0, .inr (2, [.ref q0, .int (iZ ((((n + k) : Nat) : Int)))])), (q0, .inl (cA0, 124, .inr (.inl g)))]) [0, 1] rfl) (hD.sub (ws' := [(h0, .inr (2, [.ref q0, .int (iZ ((((n + k) : Nat) : Int)))])), (q0, .inl (cA0, 124, .inr (.inl g)))]) [0, 1] (by decide) rfl) (hK.sub (tys' := [(cA0, .long)]) [0] rfl) hS (Nat.le_of_ble_eq_true rfl) (Nat.le_of_ble_eq_true rfl)
    · refine lv_lload hx hb d_Big_multiply_119 (lv_at hl 1 rfl) ?_
      refine lv_lconst (v := lN 0) hx hb d_Big_multiply_121 rfl ?_
      refine nv_lcmp_eq (tgt := 150) hx hb d_Big_multiply_122 d_Big_multiply_123 (by decide) (by omega) (by decide) (fun c122 => ?_) (fun c122 => ?_)
      · have hr0 : v * F / 1000000000 ^ (n + k) = 0 := by rw [← hrs]; exact c122
        exact ew_v (g, n + k) hx hb hr hlocks d_Big_multiply_150 (show BigIs g (n + k) (v * F) from big_end hg hr0 ht hvF) (hP.sub (ws' := [(h0, .inr (2, [.ref q0, .int (iZ ((((n + k) : Nat) : Int)))])), (q0, .inl (cA0, 124, .inr (.inl g)))]) [0, 1] rfl) (hD.sub (ws' := [(h0, .inr (2, [.ref q0, .int (iZ ((((n + k) : Nat) : Int)))])), (q0, .inl (cA0, 124, .inr (.inl g)))]) [0, 1] (by decide) rfl) (hK.sub (tys' := [(cA0, .long)]) [0] rfl) hS (Nat.le_of_ble_eq_true rfl) (Nat.le_of_ble_eq_true rfl)
      · have hlt : n + k < 124 := pB_lt (prod_more (by rw [← hrs]; omega)) hvF
        refine lv_aload_n hx hb d_Big_multiply_126 rfl (lv_at hl 0 rfl) ?_
        refine lv_lload hx hb d_Big_multiply_127 (lv_at hl 1 rfl) ?_
        refine lv_ldc2 (v := (1000000000)) hx hb hown (hts _ kw_33_) d_Big_multiply_129 ?_
        refine nv_top (y := lN 1000000000) (by decide) ?_
        refine nv_lrem hx hb d_Big_multiply_132 (by omega) (by omega) (by omega) ?_
        refine kw_v (wr := []) (tr := []) (kr_V (C0 := R_Big) (ci := 2) (i0 := 0) (As := [.long (lN (rs % 1000000000))]) (rest := []) C0 (c_Big_append l D Z _ h0 q0 cA0 g (n + k) (rs % 1000000000) (by omega)) q_y_Big_append kw_25_ kw_26_ kw_27_ kw_24_ hd_y_Big_append rfl rfl ⟨Nat.le_of_ble_eq_true rfl, Nat.le_of_ble_eq_true rfl⟩ (hP.sub (ws' := [(h0, .inr (2, [.ref q0, .int (iZ ((((n + k) : Nat) : Int)))])), (q0, .inl (cA0, 124, .inr (.inl g)))]) [0, 1] rfl) (hD.sub (ws' := [(h0, .inr (2, [.ref q0, .int (iZ ((((n + k) : Nat) : Int)))])), (q0, .inl (cA0, 124, .inr (.inl g)))]) [0, 1] (by decide) rfl) (hK.sub (tys' := [(cA0, .long)]) [0] rfl) hE hS (va_free (wc := [(h0, .inr (2, [.ref q0, .int (iZ ((((n + k) : Nat) : Int)))])), (q0, .inl (cA0, 124, .inr (.inl g)))]) hD hS hA [0, 1] rfl) rfl rfl rfl hl.1 rfl (Nat.le_of_ble_eq_true rfl) d_Big_multiply_133 ⟨Nat.le_of_ble_eq_true rfl, Nat.le_of_ble_eq_true rfl⟩) hP hD hK hS hA [0, 1] [] [] rfl rfl (by decide) (by decide) rfl (fun u H locs hpost hP hD hK hS => ?_)
        have hP : va_P D classes [(h0, .inr (2, [.ref q0, .int (iZ ((((n + k) + 1 : Nat) : Int)))])), (q0, .inl (cA0, 124, .inr (.inl (vp_updL g (n + k) (lN (rs % 1000000000))))))] H := hP
        have hD : va_D A [(h0, .inr (2, [.ref q0, .int (iZ ((((n + k) + 1 : Nat) : Int)))])), (q0, .inl (cA0, 124, .inr (.inl (vp_updL g (n + k) (lN (rs % 1000000000))))))] := hD
        have hK : va_K D classes [(cA0, .long)] s := hK
        refine lv_lload hx hb d_Big_multiply_136 (lv_at hl 1 rfl) ?_
        refine lv_ldc2 (v := (1000000000)) hx hb hown (hts _ kw_33_) d_Big_multiply_138 ?_
        refine nv_top (y := lN 1000000000) (by decide) ?_
        refine nv_ldiv hx hb d_Big_multiply_141 (by omega) (by omega) (by omega) ?_
        refine lv_lstore (lv' := [(11, .long (lN (rs / 1000000000))), (0, .ref h0), (13, .int (iZ (((k : Nat) : Int))))]) hx hb d_Big_multiply_142 hl (by decide) rfl (fun ls hl => ?_)
        refine lv_iinc (v := iZ (((k + 1 : Nat) : Int))) (lv' := [(13, .int (iZ (((k + 1 : Nat) : Int)))), (11, .long (lN (rs / 1000000000))), (0, .ref h0)]) hx hb d_Big_multiply_144 hl (k := 2) rfl ((iZ_add _ _).trans (congrArg iZ (by omega))) (by decide) rfl (fun ls hl => ?_)
        refine lv_goto (tgt := 113) hx hb d_Big_multiply_147 (by decide) ?_
        exact ih (k + 1) (rs / 1000000000) (vp_updL g (n + k) (lN (rs % 1000000000))) _ _ _ (by omega) (by omega) (by rw [hrs, Nat.div_div_eq_div_mul, ← Nat.pow_succ]; rfl) (by omega) (limbs_up (f := f) (n := n) hg (by rw [hrs]; rfl)) (Or.inr (prod_more (by rw [show n + (k + 1) - 1 = n + k by omega, ← hrs]; omega))) (hK.sub [0] rfl) (hP.sub [0, 1] rfl) (hD.sub [0, 1] (by decide) rfl) hS (lv_sub hl [2, 1, 0] rfl)
set_option maxHeartbeats 4000000 in
set_option maxRecDepth 100000 in
theorem lp_Big_multiply_34 {p : Program} {l : Launch} {e : Env} {s : State} {m : MethodId} {args : Array Value} {below : List Frame} {meth : Method} {c : Code} {A : Nat → Prop} {D : va_G} {Z : Nat → Nat} (h0 : Nat) (q0 : Nat) (cA0 : ClassId) (f : Nat → Int64) (n : Nat) (v : Nat) (F : Nat) (hB : BigIs f n v) (hF : F ≤ 1000000000000000000) (hvF : v * F < 1000000000 ^ 124) (C0 : cxA p s m args meth c b_Big_multiply 16 R_Big none) (hA : ∀ q : Nat, s.heap.size ≤ q → A q) (hE : Ev Z A s s.heap) : ∀ (N : Nat) (i : Nat) (bl : Nat) (ca : Nat) (g : Nat → Int64) (H : Heap) (locs : List Loc) (ls : Array Slot), n - i < N → (0 < F) → (i ≤ n) → (bl < 1000000000) → (ca < 2000000000) → (ca + bl * (F / 1000000000) = (v % 1000000000 ^ i) * F / 1000000000 ^ i) → (∀ j, j < i → g j = lN (dg (v * F) j)) → (∀ j, i ≤ j → j < n → g j = lN (dg v j)) → va_K D classes [(cA0, .long)] s → va_P D classes [(h0, .inr (2, [.ref q0, .int (iZ (((n : Nat) : Int)))])), (q0, .inl (cA0, 124, .inr (.inl g)))] H → va_D A [(h0, .inr (2, [.ref q0, .int (iZ (((n : Nat) : Int)))])), (q0, .inl (cA0, 124, .inr (.inl g)))] → va_S A s.heap H locs → lv_has ls 16 [(0, .ref h0), (3, .long (lN (F / 1000000000))), (5, .long (lN (F % 1000000000))), (7, .long (lN (bl))), (9, .long (lN (ca))), (11, .int (iZ (((i : Nat) : Int))))] → W p l e ({ frames := 1, cells := 0, slots := 0, locals := 22 } : Room) s m args below meth c H locs 0 0 (MQ below (Qc_Big_multiply D h0 q0 cA0 f n v F A) args s 0 0 A) (F0 m 34 ls []) := by
  obtain ⟨hx, hb, hml, hown, hts, hr, hlocks⟩ := id C0
  intro N
  induction N with
  | zero => intro i bl ca g H locs ls hN; exact absurd hN (Nat.not_lt_zero _)
  | succ N ih =>
    intro i bl ca g H locs ls hN hF0 hi hbl hca hc hg1 hg2 hK hP hD hS hl
    refine lv_iload hx hb d_Big_multiply_34 (lv_at hl 5 rfl) ?_
    refine lv_aload_n hx hb d_Big_multiply_36 rfl (lv_at hl 0 rfl) ?_
    refine va_get (D := D) (ci := 2) (v := .int (iZ (((n : Nat) : Int)))) (C := R_Big) (T := F_Big) (N := 2) hx hb hts i_Big hown hK hP 0 rfl rfl 1 (by decide) (hts _ kw_23_) (fun _ h9 => h9) rfl d_Big_multiply_37 ?_
    refine zv_icmp_ge (tgt := 101) hx hb d_Big_multiply_40 (by decide) (by have := hB.1; omega) (by have := hB.1; omega) (fun c40 => ?_) (fun c40 => ?_)
    · have e40 : i = n := by omega
      refine lv_lload hx hb d_Big_multiply_101 (lv_at hl 3 rfl) ?_
      refine lv_lload_n hx hb d_Big_multiply_103 rfl (lv_at hl 1 rfl) ?_
      refine nv_lmul hx hb d_Big_multiply_104 ?_
      refine lv_lload hx hb d_Big_multiply_105 (lv_at hl 4 rfl) ?_
      refine nv_ladd hx hb d_Big_multiply_107 ?_
      refine nv_nm (fun rs h_rs => ?_)
      refine lv_lstore (lv' := [(11, .long (lN (rs))), (0, .ref h0), (3, .long (lN (F / 1000000000))), (5, .long (lN (F % 1000000000))), (7, .long (lN (bl))), (9, .long (lN (ca)))]) hx hb d_Big_multiply_108 hl (by decide) rfl (fun ls hl => ?_)
      refine lv_iconst (v := iZ (0)) hx hb d_Big_multiply_110 rfl ?_
      refine lv_istore (lv' := [(13, .int (iZ (0))), (11, .long (lN (rs))), (0, .ref h0), (3, .long (lN (F / 1000000000))), (5, .long (lN (F % 1000000000))), (7, .long (lN (bl))), (9, .long (lN (ca)))]) hx hb d_Big_multiply_111 hl (by decide) rfl (fun ls hl => ?_)
      exact lp_Big_multiply_113 h0 q0 cA0 f n v F hB hF hvF C0 hA hE (2 - 0 + 1) 0 rs g _ _ _ (Nat.lt_succ_self _) (by omega) (by rw [h_rs, Nat.add_zero, Nat.add_comm, hc, e40, Nat.mod_eq_of_lt hB.2.1.2]) (by rw [h_rs]; exact rest_lt hbl (by omega) hca) (fun j h => hg1 j (by omega)) (prod_top hB hF0) (hK.sub [0] rfl) (hP.sub [0, 1] rfl) (hD.sub [0, 1] (by decide) rfl) hS (lv_sub hl [2, 1, 0] rfl)
    · refine lv_aload_n hx hb d_Big_multiply_43 rfl (lv_at hl 0 rfl) ?_
      refine va_get (D := D) (ci := 2) (v := .ref q0) (C := R_Big) (T := F_Big) (N := 2) hx hb hts i_Big hown hK hP 0 rfl rfl 0 (by decide) (hts _ kw_22_) (fun _ h9 => h9) rfl d_Big_multiply_44 ?_
      refine lv_iload hx hb d_Big_multiply_47 (lv_at hl 5 rfl) ?_
      refine zv_lald hx hb hK hP 1 0 rfl rfl i (by omega) (by have := hB.1; omega) (by decide) d_Big_multiply_49 ?_
      refine nv_top (y := lN (dg v i)) (hg2 i (Nat.le_refl i) (by omega)) ?_
      refine lv_lstore (lv' := [(12, .long (lN (dg v i))), (0, .ref h0), (3, .long (lN (F / 1000000000))), (5, .long (lN (F % 1000000000))), (7, .long (lN (bl))), (9, .long (lN (ca))), (11, .int (iZ (((i : Nat) : Int))))]) hx hb d_Big_multiply_50 hl (by decide) rfl (fun ls hl => ?_)
      refine lv_lload hx hb d_Big_multiply_52 (lv_at hl 0 rfl) ?_
      refine lv_lload hx hb d_Big_multiply_54 (lv_at hl 3 rfl) ?_
      refine nv_lmul hx hb d_Big_multiply_56 ?_
      refine lv_lload hx hb d_Big_multiply_57 (lv_at hl 4 rfl) ?_
      refine lv_lload_n hx hb d_Big_multiply_59 rfl (lv_at hl 2 rfl) ?_
      refine nv_lmul hx hb d_Big_multiply_60 ?_
      refine nv_ladd hx hb d_Big_multiply_61 ?_
      refine lv_lload hx hb d_Big_multiply_62 (lv_at hl 5 rfl) ?_
      refine nv_ladd hx hb d_Big_multiply_64 ?_
      refine nv_nm (fun sm h_sm => ?_)
      refine lv_lstore (lv' := [(14, .long (lN (sm))), (12, .long (lN (dg v i))), (0, .ref h0), (3, .long (lN (F / 1000000000))), (5, .long (lN (F % 1000000000))), (7, .long (lN (bl))), (9, .long (lN (ca))), (11, .int (iZ (((i : Nat) : Int))))]) hx hb d_Big_multiply_65 hl (by decide) rfl (fun ls hl => ?_)
      have hsm : sm < 2000000000000000000 := by rw [h_sm]; exact sm_lt (dg_lt v i) (Nat.mod_lt _ (by decide)) hbl (by omega) hca
      obtain ⟨st1, st2⟩ := mul_step (v := v) (F := F) (i := i) hc h_sm
      refine lv_lload hx hb d_Big_multiply_67 (lv_at hl 0 rfl) ?_
      refine lv_ldc2 (v := (1000000000)) hx hb hown (hts _ kw_33_) d_Big_multiply_69 ?_
      refine nv_top (y := lN 1000000000) (by decide) ?_
      refine nv_ldiv hx hb d_Big_multiply_72 (by omega) (by omega) (by omega) ?_
      refine lv_lstore (lv' := [(9, .long (lN (sm / 1000000000))), (14, .long (lN (sm))), (12, .long (lN (dg v i))), (0, .ref h0), (3, .long (lN (F / 1000000000))), (5, .long (lN (F % 1000000000))), (7, .long (lN (bl))), (11, .int (iZ (((i : Nat) : Int))))]) hx hb d_Big_multiply_73 hl (by decide) rfl (fun ls hl => ?_)
      refine lv_aload_n hx hb d_Big_multiply_75 rfl (lv_at hl 3 rfl) ?_
      refine va_get (D := D) (ci := 2) (v := .ref q0) (C := R_Big) (T := F_Big) (N := 2) hx hb hts i_Big hown hK hP 0 rfl rfl 0 (by decide) (hts _ kw_22_) (fun _ h9 => h9) rfl d_Big_multiply_76 ?_
      refine lv_iload hx hb d_Big_multiply_79 (lv_at hl 7 rfl) ?_
      refine lv_lload hx hb d_Big_multiply_81 (lv_at hl 1 rfl) ?_
      refine lv_lload hx hb d_Big_multiply_83 (lv_at hl 0 rfl) ?_
      refine lv_ldc2 (v := (1000000000)) hx hb hown (hts _ kw_33_) d_Big_multiply_85 ?_
      refine nv_top (y := lN 1000000000) (by decide) ?_
      refine nv_lmul hx hb d_Big_multiply_88 ?_
      refine nv_lsub hx hb d_Big_multiply_89 (Nat.div_mul_le_self _ _) ?_
      refine nv_top (y := lN (sm % 1000000000)) (congrArg lN (by omega)) ?_
      refine zv_last hx hb hK hP hD hS 1 0 rfl rfl i (by omega) (by have := hB.1; omega) (by decide) d_Big_multiply_90 (fun H locs hP hD hS => ?_)
      have hP : va_P D classes [(h0, .inr (2, [.ref q0, .int (iZ (((n : Nat) : Int)))])), (q0, .inl (cA0, 124, .inr (.inl (vp_updL g i (lN (sm % 1000000000))))))] H := hP
      have hD : va_D A [(h0, .inr (2, [.ref q0, .int (iZ (((n : Nat) : Int)))])), (q0, .inl (cA0, 124, .inr (.inl (vp_updL g i (lN (sm % 1000000000))))))] := hD
      refine lv_lload hx hb d_Big_multiply_91 (lv_at hl 2 rfl) ?_
      refine lv_lstore (lv' := [(7, .long (lN (dg v i))), (9, .long (lN (sm / 1000000000))), (14, .long (lN (sm))), (12, .long (lN (dg v i))), (0, .ref h0), (3, .long (lN (F / 1000000000))), (5, .long (lN (F % 1000000000))), (11, .int (iZ (((i : Nat) : Int))))]) hx hb d_Big_multiply_93 hl (by decide) rfl (fun ls hl => ?_)
      refine lv_iinc (v := iZ (((i + 1 : Nat) : Int))) (lv' := [(11, .int (iZ (((i + 1 : Nat) : Int)))), (7, .long (lN (dg v i))), (9, .long (lN (sm / 1000000000))), (14, .long (lN (sm))), (12, .long (lN (dg v i))), (0, .ref h0), (3, .long (lN (F / 1000000000))), (5, .long (lN (F % 1000000000)))]) hx hb d_Big_multiply_95 hl (k := 7) rfl ((iZ_add _ _).trans (congrArg iZ (by omega))) (by decide) rfl (fun ls hl => ?_)
      refine lv_goto (tgt := 34) hx hb d_Big_multiply_98 (by decide) ?_
      exact ih (i + 1) (dg v i) (sm / 1000000000) (vp_updL g i (lN (sm % 1000000000))) _ _ _ (by omega) (hF0) (by omega) (dg_lt v i) (by omega) (st2) (limbs_up (f := f) (n := n) hg1 st1) (limbs_keep (f := fun j => lN (dg v j)) (P := fun j => j < n) hg2) (hK.sub [0] rfl) (hP.sub [0, 1] rfl) (hD.sub [0, 1] (by decide) rfl) hS (lv_sub hl [5, 6, 7, 1, 2, 0] rfl)
set_option maxHeartbeats 4000000 in
set_option maxRecDepth 100000 in
theorem c_Big_multiply (l : Launch) (D : va_G) (Z : Nat → Nat) (hz9 : Nat) (h0 : Nat) (q0 : Nat) (cA0 : ClassId) (f : Nat → Int64) (n : Nat) (v : Nat) (F : Nat) (hB : BigIs f n v) (hF : F ≤ 1000000000000000000) (hvF : v * F < 1000000000 ^ 124) : Met l y_Big_multiply (.code y_Big_multiply b_Big_multiply 16 none :: gT) ({ frames := 1, cells := 0, slots := 0, locals := 22 } : Room) (va_Pc [.ref h0, .long (lN (F))] (cpre D Z [(h0, .inr (2, [.ref q0, .int (iZ (((n : Nat) : Int)))])), (q0, .inl (cA0, 124, .inr (.inl f)))] [(cA0, .long)] hz9)) (Qc_Big_multiply D h0 q0 cA0 f n v F (va_A [(h0, .inr (2, [.ref q0, .int (iZ (((n : Nat) : Int)))])), (q0, .inl (cA0, 124, .inr (.inl f)))] hz9)) 0 0 (va_A [(h0, .inr (2, [.ref q0, .int (iZ (((n : Nat) : Int)))])), (q0, .inl (cA0, 124, .inr (.inl f)))] hz9) := by
  refine met_go (Qf := Qc_Big_multiply D h0 q0 cA0 f n v F) (ff := fun A => A) (by decide) ?_
  intro p e s m below meth c A C0 hin hsz9 hA hE hK hP hD
  obtain ⟨hx, hb, hml, hown, hts, hr, hlocks⟩ := id C0
  have hS : va_S A s.heap s.heap [] := va_S.rf
  have hl := lv_entry [.ref h0, .long (lN (F))] (n := 16) (Nat.le_of_ble_eq_true rfl)
  rw [lg_entry_eq]
  generalize (lg_sl [.ref h0, .long (lN (F))] ++ List.replicate (16 - (lg_sl [.ref h0, .long (lN (F))]).length) Slot.unset).toArray = ls at hl ⊢
  have hl : lv_has ls 16 [(0, .ref h0), (1, .long (lN (F)))] := hl
  refine lv_lload_n hx hb d_Big_multiply_0 rfl (lv_at hl 1 rfl) ?_
  refine lv_lconst (v := lN 0) hx hb d_Big_multiply_1 rfl ?_
  refine nv_lcmp_ne (tgt := 12) hx hb d_Big_multiply_2 d_Big_multiply_3 (by decide) (by omega) (by omega) (fun c2 => ?_) (fun c2 => ?_)
  · have hF0 : 0 < F := by omega
    refine lv_lload_n hx hb d_Big_multiply_12 rfl (lv_at hl 1 rfl) ?_
    refine lv_ldc2 (v := (1000000000)) hx hb hown (hts _ kw_33_) d_Big_multiply_13 ?_
    refine nv_top (y := lN 1000000000) (by decide) ?_
    refine nv_ldiv hx hb d_Big_multiply_16 (by omega) (by omega) (by omega) ?_
    refine lv_lstore_n (lv' := [(3, .long (lN (F / 1000000000))), (0, .ref h0), (1, .long (lN (F)))]) hx hb d_Big_multiply_17 rfl hl (by decide) rfl (fun ls hl => ?_)
    refine lv_lload_n hx hb d_Big_multiply_18 rfl (lv_at hl 2 rfl) ?_
    refine lv_ldc2 (v := (1000000000)) hx hb hown (hts _ kw_33_) d_Big_multiply_19 ?_
    refine nv_top (y := lN 1000000000) (by decide) ?_
    refine nv_lrem hx hb d_Big_multiply_22 (by omega) (by omega) (by omega) ?_
    refine lv_lstore (lv' := [(5, .long (lN (F % 1000000000))), (3, .long (lN (F / 1000000000))), (0, .ref h0), (1, .long (lN (F)))]) hx hb d_Big_multiply_23 hl (by decide) rfl (fun ls hl => ?_)
    refine lv_lconst (v := lN 0) hx hb d_Big_multiply_25 rfl ?_
    refine lv_lstore (lv' := [(7, .long (lN (0))), (5, .long (lN (F % 1000000000))), (3, .long (lN (F / 1000000000))), (0, .ref h0), (1, .long (lN (F)))]) hx hb d_Big_multiply_26 hl (by decide) rfl (fun ls hl => ?_)
    refine lv_lconst (v := lN 0) hx hb d_Big_multiply_28 rfl ?_
    refine lv_lstore (lv' := [(9, .long (lN (0))), (7, .long (lN (0))), (5, .long (lN (F % 1000000000))), (3, .long (lN (F / 1000000000))), (0, .ref h0), (1, .long (lN (F)))]) hx hb d_Big_multiply_29 hl (by decide) rfl (fun ls hl => ?_)
    refine lv_iconst (v := iZ (0)) hx hb d_Big_multiply_31 rfl ?_
    refine lv_istore (lv' := [(11, .int (iZ (0))), (9, .long (lN (0))), (7, .long (lN (0))), (5, .long (lN (F % 1000000000))), (3, .long (lN (F / 1000000000))), (0, .ref h0), (1, .long (lN (F)))]) hx hb d_Big_multiply_32 hl (by decide) rfl (fun ls hl => ?_)
    exact lp_Big_multiply_34 h0 q0 cA0 f n v F hB hF hvF C0 hA hE (n - 0 + 1) 0 0 0 f _ _ _ (Nat.lt_succ_self _) (hF0) (by omega) (by omega) (by omega) (by rw [Nat.pow_zero, Nat.mod_one]; omega) (fun j h => absurd h (Nat.not_lt_zero j)) (fun j _ h => hB.2.1.1 j h) (hK.sub [0] rfl) (hP.sub [0, 1] rfl) (hD.sub [0, 1] (by decide) rfl) hS (lv_sub hl [5, 4, 3, 2, 1, 0] rfl)
  · refine lv_aload_n hx hb d_Big_multiply_6 rfl (lv_at hl 0 rfl) ?_
    refine lv_iconst (v := iZ (0)) hx hb d_Big_multiply_7 rfl ?_
    refine va_put (D := D) (ci := 2) (v := .int (iZ (0))) (ty := .int) (C := R_Big) (T := F_Big) (N := 2) hx hb hts i_Big t_Big t_Big_ok n_Big hown hK hP hD hS 0 rfl rfl 1 (by decide) (hts _ kw_23_) (fun _ h9 => h9) rfl (by decide +kernel) rfl rfl (Nat.le_of_ble_eq_true rfl) d_Big_multiply_8 (fun H locs hP hD hS => ?_)
    have hP : va_P D classes [(h0, .inr (2, [.ref q0, .int (iZ (0))])), (q0, .inl (cA0, 124, .inr (.inl f)))] H := hP
    have hD : va_D A [(h0, .inr (2, [.ref q0, .int (iZ (0))])), (q0, .inl (cA0, 124, .inr (.inl f)))] := hD
    exact ew_v (f, 0) hx hb hr hlocks d_Big_multiply_11 (show BigIs f 0 (v * F) from by rw [c2, Nat.mul_zero]; exact ⟨by omega, ⟨fun i h => absurd h (Nat.not_lt_zero i), by decide⟩, Or.inl rfl⟩) (hP.sub (ws' := [(h0, .inr (2, [.ref q0, .int (iZ (((0 : Nat) : Int)))])), (q0, .inl (cA0, 124, .inr (.inl f)))]) [0, 1] rfl) (hD.sub (ws' := [(h0, .inr (2, [.ref q0, .int (iZ (((0 : Nat) : Int)))])), (q0, .inl (cA0, 124, .inr (.inl f)))]) [0, 1] (by decide) rfl) (hK.sub (tys' := [(cA0, .long)]) [0] rfl) hS (Nat.le_of_ble_eq_true rfl) (Nat.le_of_ble_eq_true rfl)
abbrev Qc_Big_setToProduct (D : va_G) (h0 : Nat) (q0 : Nat) (cA0 : ClassId) (f : Nat → Int64) (n : Nat) (h1 : Nat) (q1 : Nat) (cA1 : ClassId) (f2 : Nat → Int64) (n2 : Nat) (v : Nat) (F : Nat) (A : Nat → Prop) : Array Value → State → Outcome → State → Prop := va_Qv (fun u : (Nat → Int64) × Nat => BigIs (u.1) (u.2) (v * F)) (fun (u : (Nat → Int64) × Nat) t9 => cpost D A [(h0, .inr (2, [.ref q0, .int (iZ ((((u.2) : Nat) : Int)))])), (q0, .inl (cA0, 124, .inr (.inl ((u.1))))), (h1, .inr (2, [.ref q1, .int (iZ (((n2 : Nat) : Int)))])), (q1, .inl (cA1, 124, .inr (.inl f2)))] [(cA0, .long), (cA1, .long)] t9) A
set_option maxHeartbeats 4000000 in
set_option maxRecDepth 100000 in
theorem lp_Big_setToProduct_8 {p : Program} {l : Launch} {e : Env} {s : State} {m : MethodId} {args : Array Value} {below : List Frame} {meth : Method} {c : Code} {A : Nat → Prop} {D : va_G} {Z : Nat → Nat} (h0 : Nat) (q0 : Nat) (cA0 : ClassId) (f : Nat → Int64) (n : Nat) (h1 : Nat) (q1 : Nat) (cA1 : ClassId) (f2 : Nat → Int64) (n2 : Nat) (v : Nat) (F : Nat) (hB : BigIs f2 n2 v) (hF : F ≤ 1000000000000000000) (hvF : v * F < 1000000000 ^ 124) (C0 : cxA p s m args meth c b_Big_setToProduct 5 R_Big none) (hA : ∀ q : Nat, s.heap.size ≤ q → A q) (hE : Ev Z A s s.heap) : ∀ (N : Nat) (i : Nat) (g : Nat → Int64) (H : Heap) (locs : List Loc) (ls : Array Slot), n2 - i < N → (i ≤ n2) → (∀ j, j < i → g j = lN (dg v j)) → va_K D classes [(cA0, .long), (cA1, .long)] s → va_P D classes [(h0, .inr (2, [.ref q0, .int (iZ (((i : Nat) : Int)))])), (q0, .inl (cA0, 124, .inr (.inl g))), (h1, .inr (2, [.ref q1, .int (iZ (((n2 : Nat) : Int)))])), (q1, .inl (cA1, 124, .inr (.inl f2)))] H → va_D A [(h0, .inr (2, [.ref q0, .int (iZ (((i : Nat) : Int)))])), (q0, .inl (cA0, 124, .inr (.inl g))), (h1, .inr (2, [.ref q1, .int (iZ (((n2 : Nat) : Int)))])), (q1, .inl (cA1, 124, .inr (.inl f2)))] → va_S A s.heap H locs → lv_has ls 5 [(0, .ref h0), (1, .ref h1), (2, .long (lN (F))), (4, .int (iZ (((i : Nat) : Int))))] → W p l e ({ frames := 2, cells := 0, slots := 0, locals := 57 } : Room) s m args below meth c H locs 0 0 (MQ below (Qc_Big_setToProduct D h0 q0 cA0 f n h1 q1 cA1 f2 n2 v F A) args s 0 0 A) (F0 m 8 ls []) := by
  obtain ⟨hx, hb, hml, hown, hts, hr, hlocks⟩ := id C0
  intro N
  induction N with
  | zero => intro i g H locs ls hN; exact absurd hN (Nat.not_lt_zero _)
  | succ N ih =>
    intro i g H locs ls hN hi hg hK hP hD hS hl
    refine lv_iload hx hb d_Big_setToProduct_8 (lv_at hl 3 rfl) ?_
    refine lv_aload_n hx hb d_Big_setToProduct_10 rfl (lv_at hl 1 rfl) ?_
    refine va_get (D := D) (ci := 2) (v := .int (iZ (((n2 : Nat) : Int)))) (C := R_Big) (T := F_Big) (N := 2) hx hb hts i_Big hown hK hP 2 rfl rfl 1 (by decide) (hts _ kw_23_) (fun _ h9 => h9) rfl d_Big_setToProduct_11 ?_
    refine zv_icmp_ge (tgt := 34) hx hb d_Big_setToProduct_14 (by decide) (by have := hB.1; omega) (by have := hB.1; omega) (fun c14 => ?_) (fun c14 => ?_)
    · have e14 : i = n2 := by omega
      refine lv_aload_n hx hb d_Big_setToProduct_34 rfl (lv_at hl 0 rfl) ?_
      refine lv_lload_n hx hb d_Big_setToProduct_35 rfl (lv_at hl 2 rfl) ?_
      refine kw_v (wr := [(h1, .inr (2, [.ref q1, .int (iZ (((n2 : Nat) : Int)))])), (q1, .inl (cA1, 124, .inr (.inl f2)))]) (tr := [(cA1, .long)]) (kr_V (C0 := R_Big) (ci := 2) (i0 := 0) (As := [.long (lN (F))]) (rest := []) C0 (c_Big_multiply l D Z _ h0 q0 cA0 g i v F (⟨by have := hB.1; omega, ⟨hg, by rw [e14]; exact hB.2.1.2⟩, by rw [e14]; exact hB.2.2⟩) (by omega) (by assumption)) q_y_Big_multiply kw_34_ kw_35_ kw_36_ kw_24_ hd_y_Big_multiply rfl rfl ⟨Nat.le_of_ble_eq_true rfl, Nat.le_of_ble_eq_true rfl⟩ (hP.sub (ws' := [(h0, .inr (2, [.ref q0, .int (iZ (((i : Nat) : Int)))])), (q0, .inl (cA0, 124, .inr (.inl g)))]) [0, 1] rfl) (hD.sub (ws' := [(h0, .inr (2, [.ref q0, .int (iZ (((i : Nat) : Int)))])), (q0, .inl (cA0, 124, .inr (.inl g)))]) [0, 1] (by decide) rfl) (hK.sub (tys' := [(cA0, .long)]) [0] rfl) hE hS (va_free (wc := [(h0, .inr (2, [.ref q0, .int (iZ (((i : Nat) : Int)))])), (q0, .inl (cA0, 124, .inr (.inl g)))]) hD hS hA [0, 1] rfl) rfl rfl rfl hl.1 rfl (Nat.le_of_ble_eq_true rfl) d_Big_setToProduct_36 ⟨Nat.le_of_ble_eq_true rfl, Nat.le_of_ble_eq_true rfl⟩) hP hD hK hS hA [0, 1] [2, 3] [1] rfl rfl (by decide) (by decide) rfl (fun u H locs hpost hP hD hK hS => ?_)
      obtain ⟨f1, n1⟩ := u
      have hw36 : BigIs f1 n1 (v * F) := hpost
      have hP : va_P D classes [(h1, .inr (2, [.ref q1, .int (iZ (((n2 : Nat) : Int)))])), (q1, .inl (cA1, 124, .inr (.inl f2))), (h0, .inr (2, [.ref q0, .int (iZ (((n1 : Nat) : Int)))])), (q0, .inl (cA0, 124, .inr (.inl f1)))] H := hP
      have hD : va_D A [(h1, .inr (2, [.ref q1, .int (iZ (((n2 : Nat) : Int)))])), (q1, .inl (cA1, 124, .inr (.inl f2))), (h0, .inr (2, [.ref q0, .int (iZ (((n1 : Nat) : Int)))])), (q0, .inl (cA0, 124, .inr (.inl f1)))] := hD
      have hK : va_K D classes [(cA1, .long), (cA0, .long)] s := hK
      exact ew_v (f1, n1) hx hb hr hlocks d_Big_setToProduct_39 (show BigIs f1 n1 (v * F) from hw36) (hP.sub (ws' := [(h0, .inr (2, [.ref q0, .int (iZ (((n1 : Nat) : Int)))])), (q0, .inl (cA0, 124, .inr (.inl f1))), (h1, .inr (2, [.ref q1, .int (iZ (((n2 : Nat) : Int)))])), (q1, .inl (cA1, 124, .inr (.inl f2)))]) [2, 3, 0, 1] rfl) (hD.sub (ws' := [(h0, .inr (2, [.ref q0, .int (iZ (((n1 : Nat) : Int)))])), (q0, .inl (cA0, 124, .inr (.inl f1))), (h1, .inr (2, [.ref q1, .int (iZ (((n2 : Nat) : Int)))])), (q1, .inl (cA1, 124, .inr (.inl f2)))]) [2, 3, 0, 1] (by decide) rfl) (hK.sub (tys' := [(cA0, .long), (cA1, .long)]) [1, 0] rfl) hS (Nat.le_of_ble_eq_true rfl) (Nat.le_of_ble_eq_true rfl)
    · refine lv_aload_n hx hb d_Big_setToProduct_17 rfl (lv_at hl 0 rfl) ?_
      refine lv_aload_n hx hb d_Big_setToProduct_18 rfl (lv_at hl 1 rfl) ?_
      refine va_get (D := D) (ci := 2) (v := .ref q1) (C := R_Big) (T := F_Big) (N := 2) hx hb hts i_Big hown hK hP 2 rfl rfl 0 (by decide) (hts _ kw_22_) (fun _ h9 => h9) rfl d_Big_setToProduct_19 ?_
      refine lv_iload hx hb d_Big_setToProduct_22 (lv_at hl 3 rfl) ?_
      refine zv_lald hx hb hK hP 3 1 rfl rfl i (by omega) (by have := hB.1; omega) (by decide) d_Big_setToProduct_24 ?_
      refine nv_top (y := lN (dg v i)) (hB.2.1.1 i (by omega)) ?_
      refine kw_v (wr := [(h1, .inr (2, [.ref q1, .int (iZ (((n2 : Nat) : Int)))])), (q1, .inl (cA1, 124, .inr (.inl f2)))]) (tr := [(cA1, .long)]) (kr_V (C0 := R_Big) (ci := 2) (i0 := 0) (As := [.long (lN (dg v i))]) (rest := []) C0 (c_Big_append l D Z _ h0 q0 cA0 g i (dg v i) (by have := hB.1; omega)) q_y_Big_append kw_25_ kw_26_ kw_27_ kw_24_ hd_y_Big_append rfl rfl ⟨Nat.le_of_ble_eq_true rfl, Nat.le_of_ble_eq_true rfl⟩ (hP.sub (ws' := [(h0, .inr (2, [.ref q0, .int (iZ (((i : Nat) : Int)))])), (q0, .inl (cA0, 124, .inr (.inl g)))]) [0, 1] rfl) (hD.sub (ws' := [(h0, .inr (2, [.ref q0, .int (iZ (((i : Nat) : Int)))])), (q0, .inl (cA0, 124, .inr (.inl g)))]) [0, 1] (by decide) rfl) (hK.sub (tys' := [(cA0, .long)]) [0] rfl) hE hS (va_free (wc := [(h0, .inr (2, [.ref q0, .int (iZ (((i : Nat) : Int)))])), (q0, .inl (cA0, 124, .inr (.inl g)))]) hD hS hA [0, 1] rfl) rfl rfl rfl hl.1 rfl (Nat.le_of_ble_eq_true rfl) d_Big_setToProduct_25 ⟨Nat.le_of_ble_eq_true rfl, Nat.le_of_ble_eq_true rfl⟩) hP hD hK hS hA [0, 1] [2, 3] [1] rfl rfl (by decide) (by decide) rfl (fun u H locs hpost hP hD hK hS => ?_)
      have hP : va_P D classes [(h1, .inr (2, [.ref q1, .int (iZ (((n2 : Nat) : Int)))])), (q1, .inl (cA1, 124, .inr (.inl f2))), (h0, .inr (2, [.ref q0, .int (iZ (((i + 1 : Nat) : Int)))])), (q0, .inl (cA0, 124, .inr (.inl (vp_updL g i (lN (dg v i))))))] H := hP
      have hD : va_D A [(h1, .inr (2, [.ref q1, .int (iZ (((n2 : Nat) : Int)))])), (q1, .inl (cA1, 124, .inr (.inl f2))), (h0, .inr (2, [.ref q0, .int (iZ (((i + 1 : Nat) : Int)))])), (q0, .inl (cA0, 124, .inr (.inl (vp_updL g i (lN (dg v i))))))] := hD
      have hK : va_K D classes [(cA1, .long), (cA0, .long)] s := hK
      refine lv_iinc (v := iZ (((i + 1 : Nat) : Int))) (lv' := [(4, .int (iZ (((i + 1 : Nat) : Int)))), (0, .ref h0), (1, .ref h1), (2, .long (lN (F)))]) hx hb d_Big_setToProduct_28 hl (k := 3) rfl ((iZ_add _ _).trans (congrArg iZ (by omega))) (by decide) rfl (fun ls hl => ?_)
      refine lv_goto (tgt := 8) hx hb d_Big_setToProduct_31 (by decide) ?_
      exact ih (i + 1) (vp_updL g i (lN (dg v i))) _ _ _ (by omega) (by omega) (limbs_up (f := f) (n := n2) hg rfl) (hK.sub [1, 0] rfl) (hP.sub [2, 3, 0, 1] rfl) (hD.sub [2, 3, 0, 1] (by decide) rfl) hS (lv_sub hl [1, 2, 3, 0] rfl)
set_option maxHeartbeats 4000000 in
set_option maxRecDepth 100000 in
theorem c_Big_setToProduct (l : Launch) (D : va_G) (Z : Nat → Nat) (hz9 : Nat) (h0 : Nat) (q0 : Nat) (cA0 : ClassId) (f : Nat → Int64) (n : Nat) (h1 : Nat) (q1 : Nat) (cA1 : ClassId) (f2 : Nat → Int64) (n2 : Nat) (v : Nat) (F : Nat) (hB : BigIs f2 n2 v) (hF : F ≤ 1000000000000000000) (hvF : v * F < 1000000000 ^ 124) : Met l y_Big_setToProduct (.code y_Big_setToProduct b_Big_setToProduct 5 none :: gT) ({ frames := 2, cells := 0, slots := 0, locals := 57 } : Room) (va_Pc [.ref h0, .ref h1, .long (lN (F))] (cpre D Z [(h0, .inr (2, [.ref q0, .int (iZ (((n : Nat) : Int)))])), (q0, .inl (cA0, 124, .inr (.inl f))), (h1, .inr (2, [.ref q1, .int (iZ (((n2 : Nat) : Int)))])), (q1, .inl (cA1, 124, .inr (.inl f2)))] [(cA0, .long), (cA1, .long)] hz9)) (Qc_Big_setToProduct D h0 q0 cA0 f n h1 q1 cA1 f2 n2 v F (va_A [(h0, .inr (2, [.ref q0, .int (iZ (((n : Nat) : Int)))])), (q0, .inl (cA0, 124, .inr (.inl f))), (h1, .inr (2, [.ref q1, .int (iZ (((n2 : Nat) : Int)))])), (q1, .inl (cA1, 124, .inr (.inl f2)))] hz9)) 0 0 (va_A [(h0, .inr (2, [.ref q0, .int (iZ (((n : Nat) : Int)))])), (q0, .inl (cA0, 124, .inr (.inl f))), (h1, .inr (2, [.ref q1, .int (iZ (((n2 : Nat) : Int)))])), (q1, .inl (cA1, 124, .inr (.inl f2)))] hz9) := by
  refine met_go (Qf := Qc_Big_setToProduct D h0 q0 cA0 f n h1 q1 cA1 f2 n2 v F) (ff := fun A => A) (by decide) ?_
  intro p e s m below meth c A C0 hin hsz9 hA hE hK hP hD
  obtain ⟨hx, hb, hml, hown, hts, hr, hlocks⟩ := id C0
  have hS : va_S A s.heap s.heap [] := va_S.rf
  have hl := lv_entry [.ref h0, .ref h1, .long (lN (F))] (n := 5) (Nat.le_of_ble_eq_true rfl)
  rw [lg_entry_eq]
  generalize (lg_sl [.ref h0, .ref h1, .long (lN (F))] ++ List.replicate (5 - (lg_sl [.ref h0, .ref h1, .long (lN (F))]).length) Slot.unset).toArray = ls at hl ⊢
  have hl : lv_has ls 5 [(0, .ref h0), (1, .ref h1), (2, .long (lN (F)))] := hl
  refine lv_aload_n hx hb d_Big_setToProduct_0 rfl (lv_at hl 0 rfl) ?_
  refine lv_iconst (v := iZ (0)) hx hb d_Big_setToProduct_1 rfl ?_
  refine va_put (D := D) (ci := 2) (v := .int (iZ (0))) (ty := .int) (C := R_Big) (T := F_Big) (N := 2) hx hb hts i_Big t_Big t_Big_ok n_Big hown hK hP hD hS 0 rfl rfl 1 (by decide) (hts _ kw_23_) (fun _ h9 => h9) rfl (by decide +kernel) rfl rfl (Nat.le_of_ble_eq_true rfl) d_Big_setToProduct_2 (fun H locs hP hD hS => ?_)
  have hP : va_P D classes [(h0, .inr (2, [.ref q0, .int (iZ (0))])), (q0, .inl (cA0, 124, .inr (.inl f))), (h1, .inr (2, [.ref q1, .int (iZ (((n2 : Nat) : Int)))])), (q1, .inl (cA1, 124, .inr (.inl f2)))] H := hP
  have hD : va_D A [(h0, .inr (2, [.ref q0, .int (iZ (0))])), (q0, .inl (cA0, 124, .inr (.inl f))), (h1, .inr (2, [.ref q1, .int (iZ (((n2 : Nat) : Int)))])), (q1, .inl (cA1, 124, .inr (.inl f2)))] := hD
  refine lv_iconst (v := iZ (0)) hx hb d_Big_setToProduct_5 rfl ?_
  refine lv_istore (lv' := [(4, .int (iZ (0))), (0, .ref h0), (1, .ref h1), (2, .long (lN (F)))]) hx hb d_Big_setToProduct_6 hl (by decide) rfl (fun ls hl => ?_)
  exact lp_Big_setToProduct_8 h0 q0 cA0 f n h1 q1 cA1 f2 n2 v F hB hF hvF C0 hA hE (n2 - 0 + 1) 0 f _ _ _ (Nat.lt_succ_self _) (by omega) (fun j h => absurd h (Nat.not_lt_zero j)) (hK.sub [0, 1] rfl) (hP.sub [0, 1, 2, 3] rfl) (hD.sub [0, 1, 2, 3] (by decide) rfl) hS (lv_sub hl [1, 2, 3, 0] rfl)
abbrev Qc_Big_multiplyByTwos (D : va_G) (h0 : Nat) (q0 : Nat) (cA0 : ClassId) (f : Nat → Int64) (n : Nat) (v : Nat) (t : Nat) (A : Nat → Prop) : Array Value → State → Outcome → State → Prop := va_Qv (fun u : (Nat → Int64) × Nat => BigIs (u.1) (u.2) (v * 2 ^ t)) (fun (u : (Nat → Int64) × Nat) t9 => cpost D A [(h0, .inr (2, [.ref q0, .int (iZ ((((u.2) : Nat) : Int)))])), (q0, .inl (cA0, 124, .inr (.inl ((u.1)))))] [(cA0, .long)] t9) A
set_option maxHeartbeats 4000000 in
set_option maxRecDepth 100000 in
theorem lp_Big_multiplyByTwos_2 {p : Program} {l : Launch} {e : Env} {s : State} {m : MethodId} {args : Array Value} {below : List Frame} {meth : Method} {c : Code} {A : Nat → Prop} {D : va_G} {Z : Nat → Nat} (h0 : Nat) (q0 : Nat) (cA0 : ClassId) (f : Nat → Int64) (n : Nat) (v : Nat) (t : Nat) (hB : BigIs f n v) (ht : t ≤ 2000) (hvt : v * 2 ^ t < 1000000000 ^ 124) (C0 : cxA p s m args meth c b_Big_multiplyByTwos 3 R_Big none) (hA : ∀ q : Nat, s.heap.size ≤ q → A q) (hE : Ev Z A s s.heap) : ∀ (N : Nat) (z : Int) (dn : Nat) (g : Nat → Int64) (k : Nat) (H : Heap) (locs : List Loc) (ls : Array Slot), z.toNat < N → (-59 ≤ z ∧ z ≤ 2000) → ((0 ≤ z → z + dn = t) ∧ (z < 0 → dn = t)) → (BigIs g k (v * 2 ^ dn)) → va_K D classes [(cA0, .long)] s → va_P D classes [(h0, .inr (2, [.ref q0, .int (iZ (((k : Nat) : Int)))])), (q0, .inl (cA0, 124, .inr (.inl g)))] H → va_D A [(h0, .inr (2, [.ref q0, .int (iZ (((k : Nat) : Int)))])), (q0, .inl (cA0, 124, .inr (.inl g)))] → va_S A s.heap H locs → lv_has ls 3 [(0, .ref h0), (2, .int (iZ (z)))] → W p l e ({ frames := 2, cells := 0, slots := 0, locals := 57 } : Room) s m args below meth c H locs 0 0 (MQ below (Qc_Big_multiplyByTwos D h0 q0 cA0 f n v t A) args s 0 0 A) (F0 m 2 ls []) := by
  obtain ⟨hx, hb, hml, hown, hts, hr, hlocks⟩ := id C0
  intro N
  induction N with
  | zero => intro z dn g k H locs ls hN; exact absurd hN (Nat.not_lt_zero _)
  | succ N ih =>
    intro z dn g k H locs ls hN hz hd hg hK hP hD hS hl
    refine lv_iload_n hx hb d_Big_multiplyByTwos_2 rfl (lv_at hl 1 rfl) ?_
    refine zv_if_le (tgt := 24) hx hb d_Big_multiplyByTwos_3 (by decide) (by omega) (fun c3 => ?_) (fun c3 => ?_)
    · have hdt : dn = t := by omega
      exact ew_v (g, k) hx hb hr hlocks d_Big_multiplyByTwos_24 (show BigIs g k (v * 2 ^ t) from by rw [← hdt]; exact hg) (hP.sub (ws' := [(h0, .inr (2, [.ref q0, .int (iZ (((k : Nat) : Int)))])), (q0, .inl (cA0, 124, .inr (.inl g)))]) [0, 1] rfl) (hD.sub (ws' := [(h0, .inr (2, [.ref q0, .int (iZ (((k : Nat) : Int)))])), (q0, .inl (cA0, 124, .inr (.inl g)))]) [0, 1] (by decide) rfl) (hK.sub (tys' := [(cA0, .long)]) [0] rfl) hS (Nat.le_of_ble_eq_true rfl) (Nat.le_of_ble_eq_true rfl)
    · obtain ⟨mi, hmi⟩ : ∃ mi : Nat, (mi : Int) = min z 59 := ⟨(min z 59).toNat, by omega⟩
      refine lv_aload_n hx hb d_Big_multiplyByTwos_6 rfl (lv_at hl 0 rfl) ?_
      refine lv_lconst (v := lN 1) hx hb d_Big_multiplyByTwos_7 rfl ?_
      refine lv_iload_n hx hb d_Big_multiplyByTwos_8 rfl (lv_at hl 1 rfl) ?_
      refine lv_bipush (v := iZ (59)) hx hb d_Big_multiplyByTwos_9 (by decide) ?_
      refine zv_mmin hx hb (hml.trans hl.1.symm) hown (hts _ kw_37_) (hts _ kw_38_) (hts _ kw_0_) (hts _ q_Lib_Math_min_name) (Nat.le_of_ble_eq_true rfl) (Nat.le_of_ble_eq_true rfl) (Nat.le_of_ble_eq_true rfl) (Nat.le_of_ble_eq_true rfl) (by omega) (by omega) d_Big_multiplyByTwos_11 ?_
      refine zv_top (y := iZ (((mi : Nat) : Int))) (congrArg iZ hmi.symm) ?_
      refine nv_lshl (k := mi) hx hb d_Big_multiplyByTwos_14 (rfl) (by omega) ?_
      refine nv_top (y := lN (2 ^ mi)) (congrArg lN (Nat.one_mul _)) ?_
      refine kw_v (wr := []) (tr := []) (kr_V (C0 := R_Big) (ci := 2) (i0 := 0) (As := [.long (lN (2 ^ mi))]) (rest := []) C0 (c_Big_multiply l D Z _ h0 q0 cA0 g k (v * 2 ^ dn) (2 ^ mi) (hg) (Nat.le_trans (Nat.pow_le_pow_right (by decide) (show mi ≤ 59 by omega)) (by decide)) (by rw [Nat.mul_assoc, ← Nat.pow_add]; exact Nat.lt_of_le_of_lt (Nat.mul_le_mul_left v (Nat.pow_le_pow_right (by decide) (by omega))) hvt)) q_y_Big_multiply kw_34_ kw_35_ kw_36_ kw_24_ hd_y_Big_multiply rfl rfl ⟨Nat.le_of_ble_eq_true rfl, Nat.le_of_ble_eq_true rfl⟩ (hP.sub (ws' := [(h0, .inr (2, [.ref q0, .int (iZ (((k : Nat) : Int)))])), (q0, .inl (cA0, 124, .inr (.inl g)))]) [0, 1] rfl) (hD.sub (ws' := [(h0, .inr (2, [.ref q0, .int (iZ (((k : Nat) : Int)))])), (q0, .inl (cA0, 124, .inr (.inl g)))]) [0, 1] (by decide) rfl) (hK.sub (tys' := [(cA0, .long)]) [0] rfl) hE hS (va_free (wc := [(h0, .inr (2, [.ref q0, .int (iZ (((k : Nat) : Int)))])), (q0, .inl (cA0, 124, .inr (.inl g)))]) hD hS hA [0, 1] rfl) rfl rfl rfl hl.1 rfl (Nat.le_of_ble_eq_true rfl) d_Big_multiplyByTwos_15 ⟨Nat.le_of_ble_eq_true rfl, Nat.le_of_ble_eq_true rfl⟩) hP hD hK hS hA [0, 1] [] [] rfl rfl (by decide) (by decide) rfl (fun u H locs hpost hP hD hK hS => ?_)
      obtain ⟨f1, n1⟩ := u
      have hw15 : BigIs f1 n1 ((v * 2 ^ dn) * (2 ^ mi)) := hpost
      have hP : va_P D classes [(h0, .inr (2, [.ref q0, .int (iZ (((n1 : Nat) : Int)))])), (q0, .inl (cA0, 124, .inr (.inl f1)))] H := hP
      have hD : va_D A [(h0, .inr (2, [.ref q0, .int (iZ (((n1 : Nat) : Int)))])), (q0, .inl (cA0, 124, .inr (.inl f1)))] := hD
      have hK : va_K D classes [(cA0, .long)] s := hK
      refine lv_iinc (v := iZ (z + (-59))) (lv' := [(2, .int (iZ (z + (-59)))), (0, .ref h0)]) hx hb d_Big_multiplyByTwos_18 hl (k := 1) rfl (iZ_add _ _) (by decide) rfl (fun ls hl => ?_)
      refine lv_goto (tgt := 2) hx hb d_Big_multiplyByTwos_21 (by decide) ?_
      exact ih (z + (-59)) (dn + mi) f1 n1 _ _ _ (by omega) (by omega) (by omega) (by rw [Nat.pow_add, ← Nat.mul_assoc]; exact hw15) (hK.sub [0] rfl) (hP.sub [0, 1] rfl) (hD.sub [0, 1] (by decide) rfl) hS (lv_sub hl [1, 0] rfl)
set_option maxHeartbeats 4000000 in
set_option maxRecDepth 100000 in
theorem c_Big_multiplyByTwos (l : Launch) (D : va_G) (Z : Nat → Nat) (hz9 : Nat) (h0 : Nat) (q0 : Nat) (cA0 : ClassId) (f : Nat → Int64) (n : Nat) (v : Nat) (t : Nat) (hB : BigIs f n v) (ht : t ≤ 2000) (hvt : v * 2 ^ t < 1000000000 ^ 124) : Met l y_Big_multiplyByTwos (.code y_Big_multiplyByTwos b_Big_multiplyByTwos 3 none :: gT) ({ frames := 2, cells := 0, slots := 0, locals := 57 } : Room) (va_Pc [.ref h0, .int (iZ (((t : Nat) : Int)))] (cpre D Z [(h0, .inr (2, [.ref q0, .int (iZ (((n : Nat) : Int)))])), (q0, .inl (cA0, 124, .inr (.inl f)))] [(cA0, .long)] hz9)) (Qc_Big_multiplyByTwos D h0 q0 cA0 f n v t (va_A [(h0, .inr (2, [.ref q0, .int (iZ (((n : Nat) : Int)))])), (q0, .inl (cA0, 124, .inr (.inl f)))] hz9)) 0 0 (va_A [(h0, .inr (2, [.ref q0, .int (iZ (((n : Nat) : Int)))])), (q0, .inl (cA0, 124, .inr (.inl f)))] hz9) := by
  refine met_go (Qf := Qc_Big_multiplyByTwos D h0 q0 cA0 f n v t) (ff := fun A => A) (by decide) ?_
  intro p e s m below meth c A C0 hin hsz9 hA hE hK hP hD
  obtain ⟨hx, hb, hml, hown, hts, hr, hlocks⟩ := id C0
  have hS : va_S A s.heap s.heap [] := va_S.rf
  have hl := lv_entry [.ref h0, .int (iZ (((t : Nat) : Int)))] (n := 3) (Nat.le_of_ble_eq_true rfl)
  rw [lg_entry_eq]
  generalize (lg_sl [.ref h0, .int (iZ (((t : Nat) : Int)))] ++ List.replicate (3 - (lg_sl [.ref h0, .int (iZ (((t : Nat) : Int)))]).length) Slot.unset).toArray = ls at hl ⊢
  have hl : lv_has ls 3 [(0, .ref h0), (1, .int (iZ (((t : Nat) : Int))))] := hl
  refine lv_iload_n hx hb d_Big_multiplyByTwos_0 rfl (lv_at hl 1 rfl) ?_
  refine lv_istore_n (lv' := [(2, .int (iZ (((t : Nat) : Int)))), (0, .ref h0), (1, .int (iZ (((t : Nat) : Int))))]) hx hb d_Big_multiplyByTwos_1 rfl hl (by decide) rfl (fun ls hl => ?_)
  exact lp_Big_multiplyByTwos_2 h0 q0 cA0 f n v t hB ht hvt C0 hA hE ((((t : Nat) : Int)).toNat + 1) (((t : Nat) : Int)) 0 f n _ _ _ (Nat.lt_succ_self _) (by omega) (by omega) (by rw [Nat.pow_zero, Nat.mul_one]; exact hB) (hK.sub [0] rfl) (hP.sub [0, 1] rfl) (hD.sub [0, 1] (by decide) rfl) hS (lv_sub hl [1, 0] rfl)
abbrev Qc_Big_multiplyByFives (D : va_G) (h0 : Nat) (q0 : Nat) (cA0 : ClassId) (f : Nat → Int64) (n : Nat) (v : Nat) (t : Nat) (A : Nat → Prop) : Array Value → State → Outcome → State → Prop := va_Qv (fun u : (Nat → Int64) × Nat => BigIs (u.1) (u.2) (v * 5 ^ t)) (fun (u : (Nat → Int64) × Nat) t9 => cpost D A [(h0, .inr (2, [.ref q0, .int (iZ ((((u.2) : Nat) : Int)))])), (q0, .inl (cA0, 124, .inr (.inl ((u.1)))))] [(cA0, .long)] t9) A
set_option maxHeartbeats 4000000 in
set_option maxRecDepth 100000 in
theorem lp_Big_multiplyByFives_26 {p : Program} {l : Launch} {e : Env} {s : State} {m : MethodId} {args : Array Value} {below : List Frame} {meth : Method} {c : Code} {A : Nat → Prop} {D : va_G} {Z : Nat → Nat} (h0 : Nat) (q0 : Nat) (cA0 : ClassId) (f : Nat → Int64) (n : Nat) (v : Nat) (t : Nat) (hB : BigIs f n v) (ht : t ≤ 2000) (hvt : v * 5 ^ t < 1000000000 ^ 124) (C0 : cxA p s m args meth c b_Big_multiplyByFives 5 R_Big none) (hA : ∀ q : Nat, s.heap.size ≤ q → A q) (hE : Ev Z A s s.heap) : ∀ (N : Nat) (i : Nat) (g : Nat → Int64) (k : Nat) (dn : Nat) (H : Heap) (locs : List Loc) (ls : Array Slot), t % 25 - i < N → (t % 25 + 25 * dn = t) → (i ≤ t % 25) → (BigIs g k (v * 5 ^ (25 * dn))) → va_K D classes [(cA0, .long)] s → va_P D classes [(h0, .inr (2, [.ref q0, .int (iZ (((k : Nat) : Int)))])), (q0, .inl (cA0, 124, .inr (.inl g)))] H → va_D A [(h0, .inr (2, [.ref q0, .int (iZ (((k : Nat) : Int)))])), (q0, .inl (cA0, 124, .inr (.inl g)))] → va_S A s.heap H locs → lv_has ls 5 [(0, .ref h0), (1, .int (iZ (((t : Nat) : Int)))), (2, .long (lN (5 ^ i))), (4, .int (iZ (((i : Nat) : Int))))] → W p l e ({ frames := 2, cells := 0, slots := 0, locals := 57 } : Room) s m args below meth c H locs 0 0 (MQ below (Qc_Big_multiplyByFives D h0 q0 cA0 f n v t A) args s 0 0 A) (F0 m 26 ls []) := by
  obtain ⟨hx, hb, hml, hown, hts, hr, hlocks⟩ := id C0
  intro N
  induction N with
  | zero => intro i g k dn H locs ls hN; exact absurd hN (Nat.not_lt_zero _)
  | succ N ih =>
    intro i g k dn H locs ls hN hd hi hg hK hP hD hS hl
    refine lv_iload hx hb d_Big_multiplyByFives_26 (lv_at hl 3 rfl) ?_
    refine lv_iload_n hx hb d_Big_multiplyByFives_28 rfl (lv_at hl 1 rfl) ?_
    refine lv_bipush (v := iZ (25)) hx hb d_Big_multiplyByFives_29 (by decide) ?_
    refine zv_irem hx hb d_Big_multiplyByFives_31 (by omega) (by omega) ?_
    refine zv_top (y := iZ (((t % 25 : Nat) : Int))) (congrArg iZ (by omega)) ?_
    refine zv_icmp_ge (tgt := 47) hx hb d_Big_multiplyByFives_32 (by decide) (by omega) (by omega) (fun c32 => ?_) (fun c32 => ?_)
    · have e32 : i = t % 25 := by omega
      refine lv_aload_n hx hb d_Big_multiplyByFives_47 rfl (lv_at hl 0 rfl) ?_
      refine lv_lload_n hx hb d_Big_multiplyByFives_48 rfl (lv_at hl 2 rfl) ?_
      refine kw_v (wr := []) (tr := []) (kr_V (C0 := R_Big) (ci := 2) (i0 := 0) (As := [.long (lN (5 ^ i))]) (rest := []) C0 (c_Big_multiply l D Z _ h0 q0 cA0 g k (v * 5 ^ (25 * dn)) (5 ^ i) (hg) (Nat.le_trans (Nat.pow_le_pow_right (by decide) (show i ≤ 25 by omega)) (by decide)) (by rw [Nat.mul_assoc, ← Nat.pow_add, show 25 * dn + i = t by omega]; exact hvt)) q_y_Big_multiply kw_34_ kw_35_ kw_36_ kw_24_ hd_y_Big_multiply rfl rfl ⟨Nat.le_of_ble_eq_true rfl, Nat.le_of_ble_eq_true rfl⟩ (hP.sub (ws' := [(h0, .inr (2, [.ref q0, .int (iZ (((k : Nat) : Int)))])), (q0, .inl (cA0, 124, .inr (.inl g)))]) [0, 1] rfl) (hD.sub (ws' := [(h0, .inr (2, [.ref q0, .int (iZ (((k : Nat) : Int)))])), (q0, .inl (cA0, 124, .inr (.inl g)))]) [0, 1] (by decide) rfl) (hK.sub (tys' := [(cA0, .long)]) [0] rfl) hE hS (va_free (wc := [(h0, .inr (2, [.ref q0, .int (iZ (((k : Nat) : Int)))])), (q0, .inl (cA0, 124, .inr (.inl g)))]) hD hS hA [0, 1] rfl) rfl rfl rfl hl.1 rfl (Nat.le_of_ble_eq_true rfl) d_Big_multiplyByFives_49 ⟨Nat.le_of_ble_eq_true rfl, Nat.le_of_ble_eq_true rfl⟩) hP hD hK hS hA [0, 1] [] [] rfl rfl (by decide) (by decide) rfl (fun u H locs hpost hP hD hK hS => ?_)
      obtain ⟨f1, n1⟩ := u
      have hw49 : BigIs f1 n1 ((v * 5 ^ (25 * dn)) * (5 ^ i)) := hpost
      have hP : va_P D classes [(h0, .inr (2, [.ref q0, .int (iZ (((n1 : Nat) : Int)))])), (q0, .inl (cA0, 124, .inr (.inl f1)))] H := hP
      have hD : va_D A [(h0, .inr (2, [.ref q0, .int (iZ (((n1 : Nat) : Int)))])), (q0, .inl (cA0, 124, .inr (.inl f1)))] := hD
      have hK : va_K D classes [(cA0, .long)] s := hK
      exact ew_v (f1, n1) hx hb hr hlocks d_Big_multiplyByFives_52 (show BigIs f1 n1 (v * 5 ^ t) from by rw [Nat.mul_assoc, ← Nat.pow_add, show 25 * dn + i = t by omega] at hw49; exact hw49) (hP.sub (ws' := [(h0, .inr (2, [.ref q0, .int (iZ (((n1 : Nat) : Int)))])), (q0, .inl (cA0, 124, .inr (.inl f1)))]) [0, 1] rfl) (hD.sub (ws' := [(h0, .inr (2, [.ref q0, .int (iZ (((n1 : Nat) : Int)))])), (q0, .inl (cA0, 124, .inr (.inl f1)))]) [0, 1] (by decide) rfl) (hK.sub (tys' := [(cA0, .long)]) [0] rfl) hS (Nat.le_of_ble_eq_true rfl) (Nat.le_of_ble_eq_true rfl)
    · refine lv_lload_n hx hb d_Big_multiplyByFives_35 rfl (lv_at hl 2 rfl) ?_
      refine lv_ldc2 (v := (5)) hx hb hown (hts _ kw_39_) d_Big_multiplyByFives_36 ?_
      refine nv_top (y := lN 5) (by decide) ?_
      refine nv_lmul hx hb d_Big_multiplyByFives_39 ?_
      refine nv_top (y := lN (5 ^ (i + 1))) (congrArg lN (Nat.pow_succ ..).symm) ?_
      refine lv_lstore_n (lv' := [(2, .long (lN (5 ^ (i + 1)))), (0, .ref h0), (1, .int (iZ (((t : Nat) : Int)))), (4, .int (iZ (((i : Nat) : Int))))]) hx hb d_Big_multiplyByFives_40 rfl hl (by decide) rfl (fun ls hl => ?_)
      refine lv_iinc (v := iZ (((i + 1 : Nat) : Int))) (lv' := [(4, .int (iZ (((i + 1 : Nat) : Int)))), (2, .long (lN (5 ^ (i + 1)))), (0, .ref h0), (1, .int (iZ (((t : Nat) : Int))))]) hx hb d_Big_multiplyByFives_41 hl (k := 3) rfl ((iZ_add _ _).trans (congrArg iZ (by omega))) (by decide) rfl (fun ls hl => ?_)
      refine lv_goto (tgt := 26) hx hb d_Big_multiplyByFives_44 (by decide) ?_
      exact ih (i + 1) g k dn _ _ _ (by omega) (by omega) (by omega) (hg) (hK.sub [0] rfl) (hP.sub [0, 1] rfl) (hD.sub [0, 1] (by decide) rfl) hS (lv_sub hl [2, 3, 1, 0] rfl)
set_option maxHeartbeats 4000000 in
set_option maxRecDepth 100000 in
theorem lp_Big_multiplyByFives_2 {p : Program} {l : Launch} {e : Env} {s : State} {m : MethodId} {args : Array Value} {below : List Frame} {meth : Method} {c : Code} {A : Nat → Prop} {D : va_G} {Z : Nat → Nat} (h0 : Nat) (q0 : Nat) (cA0 : ClassId) (f : Nat → Int64) (n : Nat) (v : Nat) (t : Nat) (hB : BigIs f n v) (ht : t ≤ 2000) (hvt : v * 5 ^ t < 1000000000 ^ 124) (C0 : cxA p s m args meth c b_Big_multiplyByFives 5 R_Big none) (hA : ∀ q : Nat, s.heap.size ≤ q → A q) (hE : Ev Z A s s.heap) : ∀ (N : Nat) (y : Nat) (dn : Nat) (g : Nat → Int64) (k : Nat) (H : Heap) (locs : List Loc) (ls : Array Slot), y < N → (y + 25 * dn = t) → (BigIs g k (v * 5 ^ (25 * dn))) → va_K D classes [(cA0, .long)] s → va_P D classes [(h0, .inr (2, [.ref q0, .int (iZ (((k : Nat) : Int)))])), (q0, .inl (cA0, 124, .inr (.inl g)))] H → va_D A [(h0, .inr (2, [.ref q0, .int (iZ (((k : Nat) : Int)))])), (q0, .inl (cA0, 124, .inr (.inl g)))] → va_S A s.heap H locs → lv_has ls 5 [(0, .ref h0), (1, .int (iZ (((t : Nat) : Int)))), (2, .int (iZ (((y : Nat) : Int))))] → W p l e ({ frames := 2, cells := 0, slots := 0, locals := 57 } : Room) s m args below meth c H locs 0 0 (MQ below (Qc_Big_multiplyByFives D h0 q0 cA0 f n v t A) args s 0 0 A) (F0 m 2 ls []) := by
  obtain ⟨hx, hb, hml, hown, hts, hr, hlocks⟩ := id C0
  intro N
  induction N with
  | zero => intro y dn g k H locs ls hN; exact absurd hN (Nat.not_lt_zero _)
  | succ N ih =>
    intro y dn g k H locs ls hN hd hg hK hP hD hS hl
    refine lv_iload_n hx hb d_Big_multiplyByFives_2 rfl (lv_at hl 2 rfl) ?_
    refine lv_bipush (v := iZ (25)) hx hb d_Big_multiplyByFives_3 (by decide) ?_
    refine zv_icmp_lt (tgt := 21) hx hb d_Big_multiplyByFives_5 (by decide) (by omega) (by omega) (fun c5 => ?_) (fun c5 => ?_)
    · refine lv_lconst (v := lN 1) hx hb d_Big_multiplyByFives_21 rfl ?_
      refine lv_lstore_n (lv' := [(2, .long (lN (1))), (0, .ref h0), (1, .int (iZ (((t : Nat) : Int))))]) hx hb d_Big_multiplyByFives_22 rfl hl (by decide) rfl (fun ls hl => ?_)
      refine lv_iconst (v := iZ (0)) hx hb d_Big_multiplyByFives_23 rfl ?_
      refine lv_istore (lv' := [(4, .int (iZ (0))), (2, .long (lN (1))), (0, .ref h0), (1, .int (iZ (((t : Nat) : Int))))]) hx hb d_Big_multiplyByFives_24 hl (by decide) rfl (fun ls hl => ?_)
      exact lp_Big_multiplyByFives_26 h0 q0 cA0 f n v t hB ht hvt C0 hA hE (t % 25 - 0 + 1) 0 g k dn _ _ _ (Nat.lt_succ_self _) (by omega) (by omega) (hg) (hK.sub [0] rfl) (hP.sub [0, 1] rfl) (hD.sub [0, 1] (by decide) rfl) hS (lv_sub hl [2, 3, 1, 0] rfl)
    · refine lv_aload_n hx hb d_Big_multiplyByFives_8 rfl (lv_at hl 0 rfl) ?_
      refine lv_ldc2 (v := (298023223876953125)) hx hb hown (hts _ kw_40_) d_Big_multiplyByFives_9 ?_
      refine nv_top (y := lN 298023223876953125) (by decide) ?_
      refine kw_v (wr := []) (tr := []) (kr_V (C0 := R_Big) (ci := 2) (i0 := 0) (As := [.long (lN (298023223876953125))]) (rest := []) C0 (c_Big_multiply l D Z _ h0 q0 cA0 g k (v * 5 ^ (25 * dn)) 298023223876953125 (hg) (by decide) (Nat.lt_of_le_of_lt (by rw [Nat.mul_assoc, show (298023223876953125 : Nat) = 5 ^ 25 by decide, ← Nat.pow_add]; exact Nat.mul_le_mul_left v (Nat.pow_le_pow_right (by decide) (by omega))) hvt)) q_y_Big_multiply kw_34_ kw_35_ kw_36_ kw_24_ hd_y_Big_multiply rfl rfl ⟨Nat.le_of_ble_eq_true rfl, Nat.le_of_ble_eq_true rfl⟩ (hP.sub (ws' := [(h0, .inr (2, [.ref q0, .int (iZ (((k : Nat) : Int)))])), (q0, .inl (cA0, 124, .inr (.inl g)))]) [0, 1] rfl) (hD.sub (ws' := [(h0, .inr (2, [.ref q0, .int (iZ (((k : Nat) : Int)))])), (q0, .inl (cA0, 124, .inr (.inl g)))]) [0, 1] (by decide) rfl) (hK.sub (tys' := [(cA0, .long)]) [0] rfl) hE hS (va_free (wc := [(h0, .inr (2, [.ref q0, .int (iZ (((k : Nat) : Int)))])), (q0, .inl (cA0, 124, .inr (.inl g)))]) hD hS hA [0, 1] rfl) rfl rfl rfl hl.1 rfl (Nat.le_of_ble_eq_true rfl) d_Big_multiplyByFives_12 ⟨Nat.le_of_ble_eq_true rfl, Nat.le_of_ble_eq_true rfl⟩) hP hD hK hS hA [0, 1] [] [] rfl rfl (by decide) (by decide) rfl (fun u H locs hpost hP hD hK hS => ?_)
      obtain ⟨f1, n1⟩ := u
      have hw12 : BigIs f1 n1 ((v * 5 ^ (25 * dn)) * 298023223876953125) := hpost
      have hP : va_P D classes [(h0, .inr (2, [.ref q0, .int (iZ (((n1 : Nat) : Int)))])), (q0, .inl (cA0, 124, .inr (.inl f1)))] H := hP
      have hD : va_D A [(h0, .inr (2, [.ref q0, .int (iZ (((n1 : Nat) : Int)))])), (q0, .inl (cA0, 124, .inr (.inl f1)))] := hD
      have hK : va_K D classes [(cA0, .long)] s := hK
      refine lv_iinc (v := iZ (((y - 25 : Nat) : Int))) (lv' := [(2, .int (iZ (((y - 25 : Nat) : Int)))), (0, .ref h0), (1, .int (iZ (((t : Nat) : Int))))]) hx hb d_Big_multiplyByFives_15 hl (k := 2) rfl ((iZ_add _ _).trans (congrArg iZ (by omega))) (by decide) rfl (fun ls hl => ?_)
      refine lv_goto (tgt := 2) hx hb d_Big_multiplyByFives_18 (by decide) ?_
      exact ih (y - 25) (dn + 1) f1 n1 _ _ _ (by omega) (by omega) (by rw [Nat.mul_add, Nat.pow_add, ← Nat.mul_assoc]; exact hw12) (hK.sub [0] rfl) (hP.sub [0, 1] rfl) (hD.sub [0, 1] (by decide) rfl) hS (lv_sub hl [1, 2, 0] rfl)
set_option maxHeartbeats 4000000 in
set_option maxRecDepth 100000 in
theorem c_Big_multiplyByFives (l : Launch) (D : va_G) (Z : Nat → Nat) (hz9 : Nat) (h0 : Nat) (q0 : Nat) (cA0 : ClassId) (f : Nat → Int64) (n : Nat) (v : Nat) (t : Nat) (hB : BigIs f n v) (ht : t ≤ 2000) (hvt : v * 5 ^ t < 1000000000 ^ 124) : Met l y_Big_multiplyByFives (.code y_Big_multiplyByFives b_Big_multiplyByFives 5 none :: gT) ({ frames := 2, cells := 0, slots := 0, locals := 57 } : Room) (va_Pc [.ref h0, .int (iZ (((t : Nat) : Int)))] (cpre D Z [(h0, .inr (2, [.ref q0, .int (iZ (((n : Nat) : Int)))])), (q0, .inl (cA0, 124, .inr (.inl f)))] [(cA0, .long)] hz9)) (Qc_Big_multiplyByFives D h0 q0 cA0 f n v t (va_A [(h0, .inr (2, [.ref q0, .int (iZ (((n : Nat) : Int)))])), (q0, .inl (cA0, 124, .inr (.inl f)))] hz9)) 0 0 (va_A [(h0, .inr (2, [.ref q0, .int (iZ (((n : Nat) : Int)))])), (q0, .inl (cA0, 124, .inr (.inl f)))] hz9) := by
  refine met_go (Qf := Qc_Big_multiplyByFives D h0 q0 cA0 f n v t) (ff := fun A => A) (by decide) ?_
  intro p e s m below meth c A C0 hin hsz9 hA hE hK hP hD
  obtain ⟨hx, hb, hml, hown, hts, hr, hlocks⟩ := id C0
  have hS : va_S A s.heap s.heap [] := va_S.rf
  have hl := lv_entry [.ref h0, .int (iZ (((t : Nat) : Int)))] (n := 5) (Nat.le_of_ble_eq_true rfl)
  rw [lg_entry_eq]
  generalize (lg_sl [.ref h0, .int (iZ (((t : Nat) : Int)))] ++ List.replicate (5 - (lg_sl [.ref h0, .int (iZ (((t : Nat) : Int)))]).length) Slot.unset).toArray = ls at hl ⊢
  have hl : lv_has ls 5 [(0, .ref h0), (1, .int (iZ (((t : Nat) : Int))))] := hl
  refine lv_iload_n hx hb d_Big_multiplyByFives_0 rfl (lv_at hl 1 rfl) ?_
  refine lv_istore_n (lv' := [(2, .int (iZ (((t : Nat) : Int)))), (0, .ref h0), (1, .int (iZ (((t : Nat) : Int))))]) hx hb d_Big_multiplyByFives_1 rfl hl (by decide) rfl (fun ls hl => ?_)
  exact lp_Big_multiplyByFives_2 h0 q0 cA0 f n v t hB ht hvt C0 hA hE (t + 1) t 0 f n _ _ _ (Nat.lt_succ_self _) (by omega) (by rw [Nat.mul_zero, Nat.pow_zero, Nat.mul_one]; exact hB) (hK.sub [0] rfl) (hP.sub [0, 1] rfl) (hD.sub [0, 1] (by decide) rfl) hS (lv_sub hl [1, 2, 0] rfl)
