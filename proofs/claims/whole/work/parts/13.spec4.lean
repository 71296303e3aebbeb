theorem d_Big_figureCount_0 : decode b_Big_figureCount 0 = .ok (.aload_n 0, 1) := by decide +kernel
theorem d_Big_figureCount_1 : decode b_Big_figureCount 1 = .ok (.getfield 13, 3) := by decide +kernel
theorem d_Big_figureCount_4 : decode b_Big_figureCount 4 = .ok (.ifCond .ne 5, 3) := by decide +kernel
theorem d_Big_figureCount_7 : decode b_Big_figureCount 7 = .ok (.iconst 0, 1) := by decide +kernel
theorem d_Big_figureCount_8 : decode b_Big_figureCount 8 = .ok (.ireturn, 1) := by decide +kernel
theorem d_Big_figureCount_9 : decode b_Big_figureCount 9 = .ok (.iconst 1, 1) := by decide +kernel
theorem d_Big_figureCount_10 : decode b_Big_figureCount 10 = .ok (.istore_n 1, 1) := by decide +kernel
theorem d_Big_figureCount_11 : decode b_Big_figureCount 11 = .ok (.iload_n 1, 1) := by decide +kernel
theorem d_Big_figureCount_12 : decode b_Big_figureCount 12 = .ok (.bipush 9, 2) := by decide +kernel
theorem d_Big_figureCount_14 : decode b_Big_figureCount 14 = .ok (.if_icmp .ge 28, 3) := by decide +kernel
theorem d_Big_figureCount_17 : decode b_Big_figureCount 17 = .ok (.aload_n 0, 1) := by decide +kernel
theorem d_Big_figureCount_18 : decode b_Big_figureCount 18 = .ok (.getfield 9, 3) := by decide +kernel
theorem d_Big_figureCount_21 : decode b_Big_figureCount 21 = .ok (.aload_n 0, 1) := by decide +kernel
theorem d_Big_figureCount_22 : decode b_Big_figureCount 22 = .ok (.getfield 13, 3) := by decide +kernel
theorem d_Big_figureCount_25 : decode b_Big_figureCount 25 = .ok (.iconst 1, 1) := by decide +kernel
theorem d_Big_figureCount_26 : decode b_Big_figureCount 26 = .ok (.isub, 1) := by decide +kernel
theorem d_Big_figureCount_27 : decode b_Big_figureCount 27 = .ok (.laload, 1) := by decide +kernel
theorem d_Big_figureCount_28 : decode b_Big_figureCount 28 = .ok (.iload_n 1, 1) := by decide +kernel
theorem d_Big_figureCount_29 : decode b_Big_figureCount 29 = .ok (.invokestatic 36, 3) := by decide +kernel
theorem d_Big_figureCount_32 : decode b_Big_figureCount 32 = .ok (.lcmp, 1) := by decide +kernel
theorem d_Big_figureCount_33 : decode b_Big_figureCount 33 = .ok (.ifCond .lt 9, 3) := by decide +kernel
theorem d_Big_figureCount_36 : decode b_Big_figureCount 36 = .ok (.iinc 1 1, 3) := by decide +kernel
theorem d_Big_figureCount_39 : decode b_Big_figureCount 39 = .ok (.goto (-28), 3) := by decide +kernel
theorem d_Big_figureCount_42 : decode b_Big_figureCount 42 = .ok (.aload_n 0, 1) := by decide +kernel
theorem d_Big_figureCount_43 : decode b_Big_figureCount 43 = .ok (.getfield 13, 3) := by decide +kernel
theorem d_Big_figureCount_46 : decode b_Big_figureCount 46 = .ok (.iconst 1, 1) := by decide +kernel
theorem d_Big_figureCount_47 : decode b_Big_figureCount 47 = .ok (.isub, 1) := by decide +kernel
theorem d_Big_figureCount_48 : decode b_Big_figureCount 48 = .ok (.bipush 9, 2) := by decide +kernel
theorem d_Big_figureCount_50 : decode b_Big_figureCount 50 = .ok (.imul, 1) := by decide +kernel
theorem d_Big_figureCount_51 : decode b_Big_figureCount 51 = .ok (.iload_n 1, 1) := by decide +kernel
theorem d_Big_figureCount_52 : decode b_Big_figureCount 52 = .ok (.iadd, 1) := by decide +kernel
theorem d_Big_figureCount_53 : decode b_Big_figureCount 53 = .ok (.ireturn, 1) := by decide +kernel
theorem d_Big_hasAnyBelow_0 : decode b_Big_hasAnyBelow 0 = .ok (.iload_n 1, 1) := by decide +kernel
theorem d_Big_hasAnyBelow_1 : decode b_Big_hasAnyBelow 1 = .ok (.bipush 9, 2) := by decide +kernel
theorem d_Big_hasAnyBelow_3 : decode b_Big_hasAnyBelow 3 = .ok (.idiv, 1) := by decide +kernel
theorem d_Big_hasAnyBelow_4 : decode b_Big_hasAnyBelow 4 = .ok (.istore_n 2, 1) := by decide +kernel
theorem d_Big_hasAnyBelow_5 : decode b_Big_hasAnyBelow 5 = .ok (.iconst 0, 1) := by decide +kernel
theorem d_Big_hasAnyBelow_6 : decode b_Big_hasAnyBelow 6 = .ok (.istore_n 3, 1) := by decide +kernel
theorem d_Big_hasAnyBelow_7 : decode b_Big_hasAnyBelow 7 = .ok (.iload_n 3, 1) := by decide +kernel
theorem d_Big_hasAnyBelow_8 : decode b_Big_hasAnyBelow 8 = .ok (.iload_n 2, 1) := by decide +kernel
theorem d_Big_hasAnyBelow_9 : decode b_Big_hasAnyBelow 9 = .ok (.if_icmp .ge 30, 3) := by decide +kernel
theorem d_Big_hasAnyBelow_12 : decode b_Big_hasAnyBelow 12 = .ok (.iload_n 3, 1) := by decide +kernel
theorem d_Big_hasAnyBelow_13 : decode b_Big_hasAnyBelow 13 = .ok (.aload_n 0, 1) := by decide +kernel
theorem d_Big_hasAnyBelow_14 : decode b_Big_hasAnyBelow 14 = .ok (.getfield 13, 3) := by decide +kernel
theorem d_Big_hasAnyBelow_17 : decode b_Big_hasAnyBelow 17 = .ok (.if_icmp .ge 22, 3) := by decide +kernel
theorem d_Big_hasAnyBelow_20 : decode b_Big_hasAnyBelow 20 = .ok (.aload_n 0, 1) := by decide +kernel
theorem d_Big_hasAnyBelow_21 : decode b_Big_hasAnyBelow 21 = .ok (.getfield 9, 3) := by decide +kernel
theorem d_Big_hasAnyBelow_24 : decode b_Big_hasAnyBelow 24 = .ok (.iload_n 3, 1) := by decide +kernel
theorem d_Big_hasAnyBelow_25 : decode b_Big_hasAnyBelow 25 = .ok (.laload, 1) := by decide +kernel
theorem d_Big_hasAnyBelow_26 : decode b_Big_hasAnyBelow 26 = .ok (.lconst 0, 1) := by decide +kernel
theorem d_Big_hasAnyBelow_27 : decode b_Big_hasAnyBelow 27 = .ok (.lcmp, 1) := by decide +kernel
theorem d_Big_hasAnyBelow_28 : decode b_Big_hasAnyBelow 28 = .ok (.ifCond .eq 5, 3) := by decide +kernel
theorem d_Big_hasAnyBelow_31 : decode b_Big_hasAnyBelow 31 = .ok (.iconst 1, 1) := by decide +kernel
theorem d_Big_hasAnyBelow_32 : decode b_Big_hasAnyBelow 32 = .ok (.ireturn, 1) := by decide +kernel
theorem d_Big_hasAnyBelow_33 : decode b_Big_hasAnyBelow 33 = .ok (.iinc 3 1, 3) := by decide +kernel
theorem d_Big_hasAnyBelow_36 : decode b_Big_hasAnyBelow 36 = .ok (.goto (-29), 3) := by decide +kernel
theorem d_Big_hasAnyBelow_39 : decode b_Big_hasAnyBelow 39 = .ok (.aload_n 0, 1) := by decide +kernel
theorem d_Big_hasAnyBelow_40 : decode b_Big_hasAnyBelow 40 = .ok (.iload_n 2, 1) := by decide +kernel
theorem d_Big_hasAnyBelow_41 : decode b_Big_hasAnyBelow 41 = .ok (.invokevirtual 42, 3) := by decide +kernel
theorem d_Big_hasAnyBelow_44 : decode b_Big_hasAnyBelow 44 = .ok (.iload_n 1, 1) := by decide +kernel
theorem d_Big_hasAnyBelow_45 : decode b_Big_hasAnyBelow 45 = .ok (.bipush 9, 2) := by decide +kernel
theorem d_Big_hasAnyBelow_47 : decode b_Big_hasAnyBelow 47 = .ok (.irem, 1) := by decide +kernel
theorem d_Big_hasAnyBelow_48 : decode b_Big_hasAnyBelow 48 = .ok (.invokestatic 36, 3) := by decide +kernel
theorem d_Big_hasAnyBelow_51 : decode b_Big_hasAnyBelow 51 = .ok (.lrem, 1) := by decide +kernel
theorem d_Big_hasAnyBelow_52 : decode b_Big_hasAnyBelow 52 = .ok (.lconst 0, 1) := by decide +kernel
theorem d_Big_hasAnyBelow_53 : decode b_Big_hasAnyBelow 53 = .ok (.lcmp, 1) := by decide +kernel
theorem d_Big_hasAnyBelow_54 : decode b_Big_hasAnyBelow 54 = .ok (.ifCond .eq 7, 3) := by decide +kernel
theorem d_Big_hasAnyBelow_57 : decode b_Big_hasAnyBelow 57 = .ok (.iconst 1, 1) := by decide +kernel
theorem d_Big_hasAnyBelow_58 : decode b_Big_hasAnyBelow 58 = .ok (.goto 4, 3) := by decide +kernel
theorem d_Big_hasAnyBelow_61 : decode b_Big_hasAnyBelow 61 = .ok (.iconst 0, 1) := by decide +kernel
theorem d_Big_hasAnyBelow_62 : decode b_Big_hasAnyBelow 62 = .ok (.ireturn, 1) := by decide +kernel
theorem d_Big_from_0 : decode b_Big_from 0 = .ok (.iload_n 1, 1) := by decide +kernel
theorem d_Big_from_1 : decode b_Big_from 1 = .ok (.bipush 9, 2) := by decide +kernel
theorem d_Big_from_3 : decode b_Big_from 3 = .ok (.idiv, 1) := by decide +kernel
theorem d_Big_from_4 : decode b_Big_from 4 = .ok (.istore_n 2, 1) := by decide +kernel
theorem d_Big_from_5 : decode b_Big_from 5 = .ok (.iload_n 1, 1) := by decide +kernel
theorem d_Big_from_6 : decode b_Big_from 6 = .ok (.bipush 9, 2) := by decide +kernel
theorem d_Big_from_8 : decode b_Big_from 8 = .ok (.irem, 1) := by decide +kernel
theorem d_Big_from_9 : decode b_Big_from 9 = .ok (.istore_n 3, 1) := by decide +kernel
theorem d_Big_from_10 : decode b_Big_from 10 = .ok (.aload_n 0, 1) := by decide +kernel
theorem d_Big_from_11 : decode b_Big_from 11 = .ok (.iload_n 2, 1) := by decide +kernel
theorem d_Big_from_12 : decode b_Big_from 12 = .ok (.invokevirtual 42, 3) := by decide +kernel
theorem d_Big_from_15 : decode b_Big_from 15 = .ok (.iload_n 3, 1) := by decide +kernel
theorem d_Big_from_16 : decode b_Big_from 16 = .ok (.invokestatic 36, 3) := by decide +kernel
theorem d_Big_from_19 : decode b_Big_from 19 = .ok (.ldiv, 1) := by decide +kernel
theorem d_Big_from_20 : decode b_Big_from 20 = .ok (.aload_n 0, 1) := by decide +kernel
theorem d_Big_from_21 : decode b_Big_from 21 = .ok (.iload_n 2, 1) := by decide +kernel
theorem d_Big_from_22 : decode b_Big_from 22 = .ok (.iconst 1, 1) := by decide +kernel
theorem d_Big_from_23 : decode b_Big_from 23 = .ok (.iadd, 1) := by decide +kernel
theorem d_Big_from_24 : decode b_Big_from 24 = .ok (.invokevirtual 42, 3) := by decide +kernel
theorem d_Big_from_27 : decode b_Big_from 27 = .ok (.bipush 9, 2) := by decide +kernel
theorem d_Big_from_29 : decode b_Big_from 29 = .ok (.iload_n 3, 1) := by decide +kernel
theorem d_Big_from_30 : decode b_Big_from 30 = .ok (.isub, 1) := by decide +kernel
theorem d_Big_from_31 : decode b_Big_from 31 = .ok (.invokestatic 36, 3) := by decide +kernel
theorem d_Big_from_34 : decode b_Big_from 34 = .ok (.lmul, 1) := by decide +kernel
theorem d_Big_from_35 : decode b_Big_from 35 = .ok (.ladd, 1) := by decide +kernel
theorem d_Big_from_36 : decode b_Big_from 36 = .ok (.aload_n 0, 1) := by decide +kernel
theorem d_Big_from_37 : decode b_Big_from 37 = .ok (.iload_n 2, 1) := by decide +kernel
theorem d_Big_from_38 : decode b_Big_from 38 = .ok (.iconst 2, 1) := by decide +kernel
theorem d_Big_from_39 : decode b_Big_from 39 = .ok (.iadd, 1) := by decide +kernel
theorem d_Big_from_40 : decode b_Big_from 40 = .ok (.invokevirtual 42, 3) := by decide +kernel
theorem d_Big_from_43 : decode b_Big_from 43 = .ok (.bipush 18, 2) := by decide +kernel
theorem d_Big_from_45 : decode b_Big_from 45 = .ok (.iload_n 3, 1) := by decide +kernel
theorem d_Big_from_46 : decode b_Big_from 46 = .ok (.isub, 1) := by decide +kernel
theorem d_Big_from_47 : decode b_Big_from 47 = .ok (.invokestatic 36, 3) := by decide +kernel
theorem d_Big_from_50 : decode b_Big_from 50 = .ok (.lmul, 1) := by decide +kernel
theorem d_Big_from_51 : decode b_Big_from 51 = .ok (.ladd, 1) := by decide +kernel
theorem d_Big_from_52 : decode b_Big_from 52 = .ok (.lreturn, 1) := by decide +kernel
theorem d_Big_addTenTo_0 : decode b_Big_addTenTo 0 = .ok (.iload_n 1, 1) := by decide +kernel
theorem d_Big_addTenTo_1 : decode b_Big_addTenTo 1 = .ok (.bipush 9, 2) := by decide +kernel
theorem d_Big_addTenTo_3 : decode b_Big_addTenTo 3 = .ok (.idiv, 1) := by decide +kernel
theorem d_Big_addTenTo_4 : decode b_Big_addTenTo 4 = .ok (.istore_n 2, 1) := by decide +kernel
theorem d_Big_addTenTo_5 : decode b_Big_addTenTo 5 = .ok (.aload_n 0, 1) := by decide +kernel
theorem d_Big_addTenTo_6 : decode b_Big_addTenTo 6 = .ok (.getfield 13, 3) := by decide +kernel
theorem d_Big_addTenTo_9 : decode b_Big_addTenTo 9 = .ok (.istore_n 3, 1) := by decide +kernel
theorem d_Big_addTenTo_10 : decode b_Big_addTenTo 10 = .ok (.iload_n 3, 1) := by decide +kernel
theorem d_Big_addTenTo_11 : decode b_Big_addTenTo 11 = .ok (.iload_n 2, 1) := by decide +kernel
theorem d_Big_addTenTo_12 : decode b_Big_addTenTo 12 = .ok (.if_icmp .gt 14, 3) := by decide +kernel
theorem d_Big_addTenTo_15 : decode b_Big_addTenTo 15 = .ok (.aload_n 0, 1) := by decide +kernel
theorem d_Big_addTenTo_16 : decode b_Big_addTenTo 16 = .ok (.lconst 0, 1) := by decide +kernel
theorem d_Big_addTenTo_17 : decode b_Big_addTenTo 17 = .ok (.invokevirtual 17, 3) := by decide +kernel
theorem d_Big_addTenTo_20 : decode b_Big_addTenTo 20 = .ok (.iinc 3 1, 3) := by decide +kernel
theorem d_Big_addTenTo_23 : decode b_Big_addTenTo 23 = .ok (.goto (-13), 3) := by decide +kernel
theorem d_Big_addTenTo_26 : decode b_Big_addTenTo 26 = .ok (.iload_n 1, 1) := by decide +kernel
theorem d_Big_addTenTo_27 : decode b_Big_addTenTo 27 = .ok (.bipush 9, 2) := by decide +kernel
theorem d_Big_addTenTo_29 : decode b_Big_addTenTo 29 = .ok (.irem, 1) := by decide +kernel
theorem d_Big_addTenTo_30 : decode b_Big_addTenTo 30 = .ok (.invokestatic 36, 3) := by decide +kernel
theorem d_Big_addTenTo_33 : decode b_Big_addTenTo 33 = .ok (.lstore_n 3, 1) := by decide +kernel
theorem d_Big_addTenTo_34 : decode b_Big_addTenTo 34 = .ok (.iload_n 2, 1) := by decide +kernel
theorem d_Big_addTenTo_35 : decode b_Big_addTenTo 35 = .ok (.istore 5, 2) := by decide +kernel
theorem d_Big_addTenTo_37 : decode b_Big_addTenTo 37 = .ok (.iload 5, 2) := by decide +kernel
theorem d_Big_addTenTo_39 : decode b_Big_addTenTo 39 = .ok (.aload_n 0, 1) := by decide +kernel
theorem d_Big_addTenTo_40 : decode b_Big_addTenTo 40 = .ok (.getfield 13, 3) := by decide +kernel
theorem d_Big_addTenTo_43 : decode b_Big_addTenTo 43 = .ok (.if_icmp .ge 48, 3) := by decide +kernel
theorem d_Big_addTenTo_46 : decode b_Big_addTenTo 46 = .ok (.lload_n 3, 1) := by decide +kernel
theorem d_Big_addTenTo_47 : decode b_Big_addTenTo 47 = .ok (.lconst 0, 1) := by decide +kernel
theorem d_Big_addTenTo_48 : decode b_Big_addTenTo 48 = .ok (.lcmp, 1) := by decide +kernel
theorem d_Big_addTenTo_49 : decode b_Big_addTenTo 49 = .ok (.ifCond .eq 42, 3) := by decide +kernel
theorem d_Big_addTenTo_52 : decode b_Big_addTenTo 52 = .ok (.aload_n 0, 1) := by decide +kernel
theorem d_Big_addTenTo_53 : decode b_Big_addTenTo 53 = .ok (.getfield 9, 3) := by decide +kernel
theorem d_Big_addTenTo_56 : decode b_Big_addTenTo 56 = .ok (.iload 5, 2) := by decide +kernel
theorem d_Big_addTenTo_58 : decode b_Big_addTenTo 58 = .ok (.laload, 1) := by decide +kernel
theorem d_Big_addTenTo_59 : decode b_Big_addTenTo 59 = .ok (.lload_n 3, 1) := by decide +kernel
theorem d_Big_addTenTo_60 : decode b_Big_addTenTo 60 = .ok (.ladd, 1) := by decide +kernel
theorem d_Big_addTenTo_61 : decode b_Big_addTenTo 61 = .ok (.lstore 6, 2) := by decide +kernel
theorem d_Big_addTenTo_63 : decode b_Big_addTenTo 63 = .ok (.lload 6, 2) := by decide +kernel
theorem d_Big_addTenTo_65 : decode b_Big_addTenTo 65 = .ok (.ldc2_w 24, 3) := by decide +kernel
theorem d_Big_addTenTo_68 : decode b_Big_addTenTo 68 = .ok (.ldiv, 1) := by decide +kernel
theorem d_Big_addTenTo_69 : decode b_Big_addTenTo 69 = .ok (.lstore_n 3, 1) := by decide +kernel
theorem d_Big_addTenTo_70 : decode b_Big_addTenTo 70 = .ok (.aload_n 0, 1) := by decide +kernel
theorem d_Big_addTenTo_71 : decode b_Big_addTenTo 71 = .ok (.getfield 9, 3) := by decide +kernel
theorem d_Big_addTenTo_74 : decode b_Big_addTenTo 74 = .ok (.iload 5, 2) := by decide +kernel
theorem d_Big_addTenTo_76 : decode b_Big_addTenTo 76 = .ok (.lload 6, 2) := by decide +kernel
theorem d_Big_addTenTo_78 : decode b_Big_addTenTo 78 = .ok (.lload_n 3, 1) := by decide +kernel
theorem d_Big_addTenTo_79 : decode b_Big_addTenTo 79 = .ok (.ldc2_w 24, 3) := by decide +kernel
theorem d_Big_addTenTo_82 : decode b_Big_addTenTo 82 = .ok (.lmul, 1) := by decide +kernel
theorem d_Big_addTenTo_83 : decode b_Big_addTenTo 83 = .ok (.lsub, 1) := by decide +kernel
theorem d_Big_addTenTo_84 : decode b_Big_addTenTo 84 = .ok (.lastore, 1) := by decide +kernel
theorem d_Big_addTenTo_85 : decode b_Big_addTenTo 85 = .ok (.iinc 5 1, 3) := by decide +kernel
theorem d_Big_addTenTo_88 : decode b_Big_addTenTo 88 = .ok (.goto (-51), 3) := by decide +kernel
theorem d_Big_addTenTo_91 : decode b_Big_addTenTo 91 = .ok (.lload_n 3, 1) := by decide +kernel
theorem d_Big_addTenTo_92 : decode b_Big_addTenTo 92 = .ok (.lconst 0, 1) := by decide +kernel
theorem d_Big_addTenTo_93 : decode b_Big_addTenTo 93 = .ok (.lcmp, 1) := by decide +kernel
theorem d_Big_addTenTo_94 : decode b_Big_addTenTo 94 = .ok (.ifCond .eq 8, 3) := by decide +kernel
theorem d_Big_addTenTo_97 : decode b_Big_addTenTo 97 = .ok (.aload_n 0, 1) := by decide +kernel
theorem d_Big_addTenTo_98 : decode b_Big_addTenTo 98 = .ok (.lload_n 3, 1) := by decide +kernel
theorem d_Big_addTenTo_99 : decode b_Big_addTenTo 99 = .ok (.invokevirtual 17, 3) := by decide +kernel
theorem d_Big_addTenTo_102 : decode b_Big_addTenTo 102 = .ok (.return_, 1) := by decide +kernel
abbrev Qc_Big_figureCount (D : va_G) (h0 : Nat) (q0 : Nat) (cA0 : ClassId) (f : Nat → Int64) (n : Nat) (v : Nat) (A : Nat → Prop) : Array Value → State → Outcome → State → Prop := vp_Si (fun r : Int32 => r = iZ (((nfig v : Nat) : Int)))
set_option maxHeartbeats 4000000 in
set_option maxRecDepth 100000 in
theorem lp_Big_figureCount_11 {p : Program} {l : Launch} {e : Env} {s : State} {m : MethodId} {args : Array Value} {below : List Frame} {meth : Method} {c : Code} {A : Nat → Prop} {D : va_G} {Z : Nat → Nat} (h0 : Nat) (q0 : Nat) (cA0 : ClassId) (f : Nat → Int64) (n : Nat) (v : Nat) (hB : BigIs f n v) (C0 : cxA p s m args meth c b_Big_figureCount 2 R_Big (some .int)) (hA : ∀ q : Nat, s.heap.size ≤ q → A q) (hE : Ev Z A s s.heap) : ∀ (N : Nat) (k : Nat) (ls : Array Slot), 8 - k < N → (0 < n) → (k ≤ 8) → (10 ^ k ≤ dg v (n - 1)) → va_K D classes [(cA0, .long)] s → va_P D classes [(h0, .inr (2, [.ref q0, .int (iZ (((n : Nat) : Int)))])), (q0, .inl (cA0, 124, .inr (.inl f)))] s.heap → va_D A [(h0, .inr (2, [.ref q0, .int (iZ (((n : Nat) : Int)))])), (q0, .inl (cA0, 124, .inr (.inl f)))] → va_S A s.heap s.heap [] → lv_has ls 2 [(0, .ref h0), (1, .int (iZ (((k + 1 : Nat) : Int))))] → W p l e ({ frames := 1, cells := 0, slots := 0, locals := 20 } : Room) s m args below meth c s.heap [] 0 0 (MQ below (Qc_Big_figureCount D h0 q0 cA0 f n v A) args s 0 0 (fun _ => False)) (F0 m 11 ls []) := by
  obtain ⟨hx, hb, hml, hown, hts, hr, hlocks⟩ := id C0
  intro N
  induction N with
  | zero => intro k ls hN; exact absurd hN (Nat.not_lt_zero _)
  | succ N ih =>
    intro k ls hN hn0 hk ht hK hP hD hS hl
    refine lv_iload_n hx hb d_Big_figureCount_11 rfl (lv_at hl 1 rfl) ?_
    refine lv_bipush (v := iZ (9)) hx hb d_Big_figureCount_12 (by decide) ?_
    refine zv_icmp_ge (tgt := 42) hx hb d_Big_figureCount_14 (by decide) (by omega) (by omega) (fun c14 => ?_) (fun c14 => ?_)
    · have hlt : dg v (n - 1) < 10 ^ (k + 1) := Nat.lt_of_lt_of_le (dg_lt v (n - 1)) (p10_le (i := 9) (by omega))
      refine lv_aload_n hx hb d_Big_figureCount_42 rfl (lv_at hl 0 rfl) ?_
      refine va_get (D := D) (ci := 2) (v := .int (iZ (((n : Nat) : Int)))) (C := R_Big) (T := F_Big) (N := 2) hx hb hts i_Big hown hK hP 0 rfl rfl 1 (by decide) (hts _ kw_23_) (fun _ h9 => h9) rfl d_Big_figureCount_43 ?_
      refine lv_iconst (v := iZ (1)) hx hb d_Big_figureCount_46 rfl ?_
      refine zv_isub hx hb d_Big_figureCount_47 ?_
      refine zv_top (y := iZ (((n - 1 : Nat) : Int))) (congrArg iZ (by omega)) ?_
      refine lv_bipush (v := iZ (9)) hx hb d_Big_figureCount_48 (by decide) ?_
      refine zv_imul hx hb d_Big_figureCount_50 ?_
      refine zv_top (y := iZ ((((n - 1) * 9 : Nat) : Int))) (congrArg iZ (by omega)) ?_
      refine lv_iload_n hx hb d_Big_figureCount_51 rfl (lv_at hl 1 rfl) ?_
      refine zv_iadd hx hb d_Big_figureCount_52 ?_
      refine zv_top (y := iZ (((((n - 1) * 9) + (k + 1) : Nat) : Int))) (congrArg iZ (by omega)) ?_
      exact er_i hx hb hr hlocks d_Big_figureCount_53 (show iZ (((((n - 1) * 9) + (k + 1) : Nat) : Int)) = iZ (((nfig v : Nat) : Int)) from congrArg iZ (by rw [nfig_limb hB hn0 ht hlt]))
    · refine lv_aload_n hx hb d_Big_figureCount_17 rfl (lv_at hl 0 rfl) ?_
      refine va_get (D := D) (ci := 2) (v := .ref q0) (C := R_Big) (T := F_Big) (N := 2) hx hb hts i_Big hown hK hP 0 rfl rfl 0 (by decide) (hts _ kw_22_) (fun _ h9 => h9) rfl d_Big_figureCount_18 ?_
      refine lv_aload_n hx hb d_Big_figureCount_21 rfl (lv_at hl 0 rfl) ?_
      refine va_get (D := D) (ci := 2) (v := .int (iZ (((n : Nat) : Int)))) (C := R_Big) (T := F_Big) (N := 2) hx hb hts i_Big hown hK hP 0 rfl rfl 1 (by decide) (hts _ kw_23_) (fun _ h9 => h9) rfl d_Big_figureCount_22 ?_
      refine lv_iconst (v := iZ (1)) hx hb d_Big_figureCount_25 rfl ?_
      refine zv_isub hx hb d_Big_figureCount_26 ?_
      refine zv_top (y := iZ (((n - 1 : Nat) : Int))) (congrArg iZ (by omega)) ?_
      refine zv_lald hx hb hK hP 1 0 rfl rfl (n - 1) (by omega) (by have := hB.1; omega) (by decide) d_Big_figureCount_27 ?_
      refine nv_top (y := lN (dg v (n - 1))) (hB.2.1.1 (n - 1) (by omega)) ?_
      refine lv_iload_n hx hb d_Big_figureCount_28 rfl (lv_at hl 1 rfl) ?_
      refine kg_l (kr_SN (host := R_FW) (As := [.int (iZ (((k + 1 : Nat) : Int)))]) (rest := [.long (lN (dg v (n - 1)))]) C0 (c_FW_tenTo l D Z _ (k + 1) (by omega)) q_y_FW_tenTo (hE.nw 3 rfl) kw_31_ kw_3_ hd_y_FW_tenTo rfl rfl ⟨Nat.le_of_ble_eq_true rfl, Nat.le_of_ble_eq_true rfl⟩ (hP.sub (ws' := []) [] rfl) (hD.sub (ws' := []) [] (by decide) rfl) (hK.sub (tys' := []) [] rfl) hE hS (va_free (wc := []) hD hS hA [] rfl) rfl hl.1 rfl (Nat.le_of_ble_eq_true rfl) d_Big_figureCount_29 ⟨Nat.le_of_ble_eq_true rfl, Nat.le_of_ble_eq_true rfl⟩) (fun r hr1 => ?_)
      obtain rfl : r = lN (10 ^ (k + 1)) := hr1
      refine nv_lcmp_lt (tgt := 42) hx hb d_Big_figureCount_32 d_Big_figureCount_33 (by decide) (by have := dg_lt v (n - 1); omega) (ten_63 (by omega)) (fun c32 => ?_) (fun c32 => ?_)
      · have hlt : dg v (n - 1) < 10 ^ (k + 1) := c32
        refine lv_aload_n hx hb d_Big_figureCount_42 rfl (lv_at hl 0 rfl) ?_
        refine va_get (D := D) (ci := 2) (v := .int (iZ (((n : Nat) : Int)))) (C := R_Big) (T := F_Big) (N := 2) hx hb hts i_Big hown hK hP 0 rfl rfl 1 (by decide) (hts _ kw_23_) (fun _ h9 => h9) rfl d_Big_figureCount_43 ?_
        refine lv_iconst (v := iZ (1)) hx hb d_Big_figureCount_46 rfl ?_
        refine zv_isub hx hb d_Big_figureCount_47 ?_
        refine zv_top (y := iZ (((n - 1 : Nat) : Int))) (congrArg iZ (by omega)) ?_
        refine lv_bipush (v := iZ (9)) hx hb d_Big_figureCount_48 (by decide) ?_
        refine zv_imul hx hb d_Big_figureCount_50 ?_
        refine zv_top (y := iZ ((((n - 1) * 9 : Nat) : Int))) (congrArg iZ (by omega)) ?_
        refine lv_iload_n hx hb d_Big_figureCount_51 rfl (lv_at hl 1 rfl) ?_
        refine zv_iadd hx hb d_Big_figureCount_52 ?_
        refine zv_top (y := iZ (((((n - 1) * 9) + (k + 1) : Nat) : Int))) (congrArg iZ (by omega)) ?_
        exact er_i hx hb hr hlocks d_Big_figureCount_53 (show iZ (((((n - 1) * 9) + (k + 1) : Nat) : Int)) = iZ (((nfig v : Nat) : Int)) from congrArg iZ (by rw [nfig_limb hB hn0 ht hlt]))
      · have hge : 10 ^ (k + 1) ≤ dg v (n - 1) := by omega
        refine lv_iinc (v := iZ (((k + 1 + 1 : Nat) : Int))) (lv' := [(1, .int (iZ (((k + 1 + 1 : Nat) : Int)))), (0, .ref h0)]) hx hb d_Big_figureCount_36 hl (k := 1) rfl ((iZ_add _ _).trans (congrArg iZ (by omega))) (by decide) rfl (fun ls hl => ?_)
        refine lv_goto (tgt := 11) hx hb d_Big_figureCount_39 (by decide) ?_
        exact ih (k + 1) _ (by omega) (by omega) (by omega) (hge) (hK.sub [0] rfl) (hP.sub [0, 1] rfl) (hD.sub [0, 1] (by decide) rfl) hS (lv_sub hl [1, 0] rfl)
set_option maxHeartbeats 4000000 in
set_option maxRecDepth 100000 in
theorem c_Big_figureCount (l : Launch) (D : va_G) (Z : Nat → Nat) (hz9 : Nat) (h0 : Nat) (q0 : Nat) (cA0 : ClassId) (f : Nat → Int64) (n : Nat) (v : Nat) (hB : BigIs f n v) : Met l y_Big_figureCount (.code y_Big_figureCount b_Big_figureCount 2 (some .int) :: gT) ({ frames := 1, cells := 0, slots := 0, locals := 20 } : Room) (va_Pc [.ref h0] (cpre D Z [(h0, .inr (2, [.ref q0, .int (iZ (((n : Nat) : Int)))])), (q0, .inl (cA0, 124, .inr (.inl f)))] [(cA0, .long)] hz9)) (Qc_Big_figureCount D h0 q0 cA0 f n v (va_A [(h0, .inr (2, [.ref q0, .int (iZ (((n : Nat) : Int)))])), (q0, .inl (cA0, 124, .inr (.inl f)))] hz9)) 0 0 (fun _ => False) := by
  refine met_go (Qf := Qc_Big_figureCount D h0 q0 cA0 f n v) (ff := fun _ _ => False) (by decide) ?_
  intro p e s m below meth c A C0 hin hsz9 hA hE hK hP hD
  obtain ⟨hx, hb, hml, hown, hts, hr, hlocks⟩ := id C0
  have hS : va_S A s.heap s.heap [] := va_S.rf
  have hl := lv_entry [.ref h0] (n := 2) (Nat.le_of_ble_eq_true rfl)
  rw [lg_entry_eq]
  generalize (lg_sl [.ref h0] ++ List.replicate (2 - (lg_sl [.ref h0]).length) Slot.unset).toArray = ls at hl ⊢
  have hl : lv_has ls 2 [(0, .ref h0)] := hl
  refine lv_aload_n hx hb d_Big_figureCount_0 rfl (lv_at hl 0 rfl) ?_
  refine va_get (D := D) (ci := 2) (v := .int (iZ (((n : Nat) : Int)))) (C := R_Big) (T := F_Big) (N := 2) hx hb hts i_Big hown hK hP 0 rfl rfl 1 (by decide) (hts _ kw_23_) (fun _ h9 => h9) rfl d_Big_figureCount_1 ?_
  refine zv_if_ne (tgt := 9) hx hb d_Big_figureCount_4 (by decide) (by have := hB.1; omega) (fun c4 => ?_) (fun c4 => ?_)
  · have hn0 : 0 < n := by omega
    refine lv_iconst (v := iZ (1)) hx hb d_Big_figureCount_9 rfl ?_
    refine lv_istore_n (lv' := [(1, .int (iZ (1))), (0, .ref h0)]) hx hb d_Big_figureCount_10 rfl hl (by decide) rfl (fun ls hl => ?_)
    exact lp_Big_figureCount_11 h0 q0 cA0 f n v hB C0 hA hE (8 - 0 + 1) 0 _ (Nat.lt_succ_self _) (by omega) (by omega) ((top_limb hB hn0).2) (hK.sub [0] rfl) (hP.sub [0, 1] rfl) (hD.sub [0, 1] (by decide) rfl) hS (lv_sub hl [1, 0] rfl)
  · refine lv_iconst (v := iZ (0)) hx hb d_Big_figureCount_7 rfl ?_
    exact er_i hx hb hr hlocks d_Big_figureCount_8 (show iZ (0) = iZ (((nfig v : Nat) : Int)) from by rw [hB.zero.mpr (by omega)]; rfl)
abbrev Qc_Big_hasAnyBelow (D : va_G) (h0 : Nat) (q0 : Nat) (cA0 : ClassId) (f : Nat → Int64) (n : Nat) (v : Nat) (k : Nat) (A : Nat → Prop) : Array Value → State → Outcome → State → Prop := vp_Si (fun r : Int32 => r = bZ (¬ v % 10 ^ k = 0))
set_option maxHeartbeats 4000000 in
set_option maxRecDepth 100000 in
theorem lp_Big_hasAnyBelow_7 {p : Program} {l : Launch} {e : Env} {s : State} {m : MethodId} {args : Array Value} {below : List Frame} {meth : Method} {c : Code} {A : Nat → Prop} {D : va_G} {Z : Nat → Nat} (h0 : Nat) (q0 : Nat) (cA0 : ClassId) (f : Nat → Int64) (n : Nat) (v : Nat) (k : Nat) (hB : BigIs f n v) (hk : k < 2147483648) (C0 : cxA p s m args meth c b_Big_hasAnyBelow 4 R_Big (some .boolean)) (hA : ∀ q : Nat, s.heap.size ≤ q → A q) (hE : Ev Z A s s.heap) : ∀ (N : Nat) (i : Nat) (ls : Array Slot), k / 9 - i < N → (i ≤ k / 9) → (i ≤ n) → (v % 1000000000 ^ i = 0) → va_K D classes [(cA0, .long)] s → va_P D classes [(h0, .inr (2, [.ref q0, .int (iZ (((n : Nat) : Int)))])), (q0, .inl (cA0, 124, .inr (.inl f)))] s.heap → va_D A [(h0, .inr (2, [.ref q0, .int (iZ (((n : Nat) : Int)))])), (q0, .inl (cA0, 124, .inr (.inl f)))] → va_S A s.heap s.heap [] → lv_has ls 4 [(0, .ref h0), (1, .int (iZ (((k : Nat) : Int)))), (2, .int (iZ (((k / 9 : Nat) : Int)))), (3, .int (iZ (((i : Nat) : Int))))] → W p l e ({ frames := 1, cells := 0, slots := 0, locals := 21 } : Room) s m args below meth c s.heap [] 0 0 (MQ below (Qc_Big_hasAnyBelow D h0 q0 cA0 f n v k A) args s 0 0 (fun _ => False)) (F0 m 7 ls []) := by
  obtain ⟨hx, hb, hml, hown, hts, hr, hlocks⟩ := id C0
  intro N
  induction N with
  | zero => intro i ls hN; exact absurd hN (Nat.not_lt_zero _)
  | succ N ih =>
    intro i ls hN hi hin hz hK hP hD hS hl
    refine lv_iload_n hx hb d_Big_hasAnyBelow_7 rfl (lv_at hl 3 rfl) ?_
    refine lv_iload_n hx hb d_Big_hasAnyBelow_8 rfl (lv_at hl 2 rfl) ?_
    refine zv_icmp_ge (tgt := 39) hx hb d_Big_hasAnyBelow_9 (by decide) (by omega) (by omega) (fun c9 => ?_) (fun c9 => ?_)
    · have hlow : v % 1000000000 ^ (k / 9) = 0 := by rw [show k / 9 = i by omega]; exact hz
      refine lv_aload_n hx hb d_Big_hasAnyBelow_39 rfl (lv_at hl 0 rfl) ?_
      refine lv_iload_n hx hb d_Big_hasAnyBelow_40 rfl (lv_at hl 2 rfl) ?_
      refine kg_l (kr_V (C0 := R_Big) (ci := 2) (i0 := 0) (As := [.int (iZ (((k / 9 : Nat) : Int)))]) (rest := []) C0 (c_Big_limbAt l D Z _ h0 q0 cA0 f n v (k / 9) (by assumption) (by omega)) q_y_Big_limbAt kw_28_ kw_29_ kw_30_ kw_24_ hd_y_Big_limbAt rfl rfl ⟨Nat.le_of_ble_eq_true rfl, Nat.le_of_ble_eq_true rfl⟩ (hP.sub (ws' := [(h0, .inr (2, [.ref q0, .int (iZ (((n : Nat) : Int)))])), (q0, .inl (cA0, 124, .inr (.inl f)))]) [0, 1] rfl) (hD.sub (ws' := [(h0, .inr (2, [.ref q0, .int (iZ (((n : Nat) : Int)))])), (q0, .inl (cA0, 124, .inr (.inl f)))]) [0, 1] (by decide) rfl) (hK.sub (tys' := [(cA0, .long)]) [0] rfl) hE hS (va_free (wc := [(h0, .inr (2, [.ref q0, .int (iZ (((n : Nat) : Int)))])), (q0, .inl (cA0, 124, .inr (.inl f)))]) hD hS hA [0, 1] rfl) rfl rfl rfl hl.1 rfl (Nat.le_of_ble_eq_true rfl) d_Big_hasAnyBelow_41 ⟨Nat.le_of_ble_eq_true rfl, Nat.le_of_ble_eq_true rfl⟩) (fun r hr1 => ?_)
      obtain rfl : r = lN (dg v (k / 9)) := hr1
      refine lv_iload_n hx hb d_Big_hasAnyBelow_44 rfl (lv_at hl 1 rfl) ?_
      refine lv_bipush (v := iZ (9)) hx hb d_Big_hasAnyBelow_45 (by decide) ?_
      refine zv_irem hx hb d_Big_hasAnyBelow_47 (by omega) (by omega) ?_
      refine zv_top (y := iZ (((k % 9 : Nat) : Int))) (congrArg iZ (by omega)) ?_
      refine kg_l (kr_SN (host := R_FW) (As := [.int (iZ (((k % 9 : Nat) : Int)))]) (rest := [.long (lN (dg v (k / 9)))]) C0 (c_FW_tenTo l D Z _ (k % 9) (by omega)) q_y_FW_tenTo (hE.nw 3 rfl) kw_31_ kw_3_ hd_y_FW_tenTo rfl rfl ⟨Nat.le_of_ble_eq_true rfl, Nat.le_of_ble_eq_true rfl⟩ (hP.sub (ws' := []) [] rfl) (hD.sub (ws' := []) [] (by decide) rfl) (hK.sub (tys' := []) [] rfl) hE hS (va_free (wc := []) hD hS hA [] rfl) rfl hl.1 rfl (Nat.le_of_ble_eq_true rfl) d_Big_hasAnyBelow_48 ⟨Nat.le_of_ble_eq_true rfl, Nat.le_of_ble_eq_true rfl⟩) (fun r hr1 => ?_)
      obtain rfl : r = lN (10 ^ (k % 9)) := hr1
      refine nv_lrem hx hb d_Big_hasAnyBelow_51 (by have := dg_lt v (k / 9); omega) (Nat.pow_pos (by decide)) (ten_63 (by omega)) ?_
      refine lv_lconst (v := lN 0) hx hb d_Big_hasAnyBelow_52 rfl ?_
      refine nv_lcmp_eq (tgt := 61) hx hb d_Big_hasAnyBelow_53 d_Big_hasAnyBelow_54 (by decide) (Nat.lt_of_le_of_lt (Nat.mod_le _ _) (by have := dg_lt v (k / 9); omega)) (by decide) (fun c53 => ?_) (fun c53 => ?_)
      · have hq := low_limb v k
        rw [hlow, c53, Nat.mul_zero] at hq
        refine lv_iconst (v := iZ (0)) hx hb d_Big_hasAnyBelow_61 rfl ?_
        exact er_z hx hb hr hlocks (by decide) d_Big_hasAnyBelow_62 (show iZ (0) = bZ (¬ v % 10 ^ k = 0) from by first | exact (bZ_t hq).symm | exact (bZ_f (fun z => z (by omega))).symm)
      · have hq : ¬ v % 10 ^ k = 0 := by
          rw [low_limb v k, hlow, Nat.zero_add]
          exact Nat.ne_of_gt (Nat.mul_pos (pB_pos _) (Nat.pos_of_ne_zero c53))
        refine lv_iconst (v := iZ (1)) hx hb d_Big_hasAnyBelow_57 rfl ?_
        refine lv_goto (tgt := 62) hx hb d_Big_hasAnyBelow_58 (by decide) ?_
        exact er_z hx hb hr hlocks (by decide) d_Big_hasAnyBelow_62 (show iZ (1) = bZ (¬ v % 10 ^ k = 0) from by first | exact (bZ_t hq).symm | exact (bZ_f (fun z => z (by omega))).symm)
    · refine lv_iload_n hx hb d_Big_hasAnyBelow_12 rfl (lv_at hl 3 rfl) ?_
      refine lv_aload_n hx hb d_Big_hasAnyBelow_13 rfl (lv_at hl 0 rfl) ?_
      refine va_get (D := D) (ci := 2) (v := .int (iZ (((n : Nat) : Int)))) (C := R_Big) (T := F_Big) (N := 2) hx hb hts i_Big hown hK hP 0 rfl rfl 1 (by decide) (hts _ kw_23_) (fun _ h9 => h9) rfl d_Big_hasAnyBelow_14 ?_
      refine zv_icmp_ge (tgt := 39) hx hb d_Big_hasAnyBelow_17 (by decide) (by have := hB.1; omega) (by have := hB.1; omega) (fun c17 => ?_) (fun c17 => ?_)
      · have hlow : v % 1000000000 ^ (k / 9) = 0 := by
          have e : i = n := by omega
          have h2 := hB.2.1.2
          rw [e, Nat.mod_eq_of_lt h2] at hz
          rw [hz, Nat.zero_mod]
        refine lv_aload_n hx hb d_Big_hasAnyBelow_39 rfl (lv_at hl 0 rfl) ?_
        refine lv_iload_n hx hb d_Big_hasAnyBelow_40 rfl (lv_at hl 2 rfl) ?_
        refine kg_l (kr_V (C0 := R_Big) (ci := 2) (i0 := 0) (As := [.int (iZ (((k / 9 : Nat) : Int)))]) (rest := []) C0 (c_Big_limbAt l D Z _ h0 q0 cA0 f n v (k / 9) (by assumption) (by omega)) q_y_Big_limbAt kw_28_ kw_29_ kw_30_ kw_24_ hd_y_Big_limbAt rfl rfl ⟨Nat.le_of_ble_eq_true rfl, Nat.le_of_ble_eq_true rfl⟩ (hP.sub (ws' := [(h0, .inr (2, [.ref q0, .int (iZ (((n : Nat) : Int)))])), (q0, .inl (cA0, 124, .inr (.inl f)))]) [0, 1] rfl) (hD.sub (ws' := [(h0, .inr (2, [.ref q0, .int (iZ (((n : Nat) : Int)))])), (q0, .inl (cA0, 124, .inr (.inl f)))]) [0, 1] (by decide) rfl) (hK.sub (tys' := [(cA0, .long)]) [0] rfl) hE hS (va_free (wc := [(h0, .inr (2, [.ref q0, .int (iZ (((n : Nat) : Int)))])), (q0, .inl (cA0, 124, .inr (.inl f)))]) hD hS hA [0, 1] rfl) rfl rfl rfl hl.1 rfl (Nat.le_of_ble_eq_true rfl) d_Big_hasAnyBelow_41 ⟨Nat.le_of_ble_eq_true rfl, Nat.le_of_ble_eq_true rfl⟩) (fun r hr1 => ?_)
        obtain rfl : r = lN (dg v (k / 9)) := hr1
        refine lv_iload_n hx hb d_Big_hasAnyBelow_44 rfl (lv_at hl 1 rfl) ?_
        refine lv_bipush (v := iZ (9)) hx hb d_Big_hasAnyBelow_45 (by decide) ?_
        refine zv_irem hx hb d_Big_hasAnyBelow_47 (by omega) (by omega) ?_
        refine zv_top (y := iZ (((k % 9 : Nat) : Int))) (congrArg iZ (by omega)) ?_
        refine kg_l (kr_SN (host := R_FW) (As := [.int (iZ (((k % 9 : Nat) : Int)))]) (rest := [.long (lN (dg v (k / 9)))]) C0 (c_FW_tenTo l D Z _ (k % 9) (by omega)) q_y_FW_tenTo (hE.nw 3 rfl) kw_31_ kw_3_ hd_y_FW_tenTo rfl rfl ⟨Nat.le_of_ble_eq_true rfl, Nat.le_of_ble_eq_true rfl⟩ (hP.sub (ws' := []) [] rfl) (hD.sub (ws' := []) [] (by decide) rfl) (hK.sub (tys' := []) [] rfl) hE hS (va_free (wc := []) hD hS hA [] rfl) rfl hl.1 rfl (Nat.le_of_ble_eq_true rfl) d_Big_hasAnyBelow_48 ⟨Nat.le_of_ble_eq_true rfl, Nat.le_of_ble_eq_true rfl⟩) (fun r hr1 => ?_)
        obtain rfl : r = lN (10 ^ (k % 9)) := hr1
        refine nv_lrem hx hb d_Big_hasAnyBelow_51 (by have := dg_lt v (k / 9); omega) (Nat.pow_pos (by decide)) (ten_63 (by omega)) ?_
        refine lv_lconst (v := lN 0) hx hb d_Big_hasAnyBelow_52 rfl ?_
        refine nv_lcmp_eq (tgt := 61) hx hb d_Big_hasAnyBelow_53 d_Big_hasAnyBelow_54 (by decide) (Nat.lt_of_le_of_lt (Nat.mod_le _ _) (by have := dg_lt v (k / 9); omega)) (by decide) (fun c53 => ?_) (fun c53 => ?_)
        · have hq := low_limb v k
          rw [hlow, c53, Nat.mul_zero] at hq
          refine lv_iconst (v := iZ (0)) hx hb d_Big_hasAnyBelow_61 rfl ?_
          exact er_z hx hb hr hlocks (by decide) d_Big_hasAnyBelow_62 (show iZ (0) = bZ (¬ v % 10 ^ k = 0) from by first | exact (bZ_t hq).symm | exact (bZ_f (fun z => z (by omega))).symm)
        · have hq : ¬ v % 10 ^ k = 0 := by
            rw [low_limb v k, hlow, Nat.zero_add]
            exact Nat.ne_of_gt (Nat.mul_pos (pB_pos _) (Nat.pos_of_ne_zero c53))
          refine lv_iconst (v := iZ (1)) hx hb d_Big_hasAnyBelow_57 rfl ?_
          refine lv_goto (tgt := 62) hx hb d_Big_hasAnyBelow_58 (by decide) ?_
          exact er_z hx hb hr hlocks (by decide) d_Big_hasAnyBelow_62 (show iZ (1) = bZ (¬ v % 10 ^ k = 0) from by first | exact (bZ_t hq).symm | exact (bZ_f (fun z => z (by omega))).symm)
      · refine lv_aload_n hx hb d_Big_hasAnyBelow_20 rfl (lv_at hl 0 rfl) ?_
        refine va_get (D := D) (ci := 2) (v := .ref q0) (C := R_Big) (T := F_Big) (N := 2) hx hb hts i_Big hown hK hP 0 rfl rfl 0 (by decide) (hts _ kw_22_) (fun _ h9 => h9) rfl d_Big_hasAnyBelow_21 ?_
        refine lv_iload_n hx hb d_Big_hasAnyBelow_24 rfl (lv_at hl 3 rfl) ?_
        refine zv_lald hx hb hK hP 1 0 rfl rfl i (by omega) (by have := hB.1; omega) (by decide) d_Big_hasAnyBelow_25 ?_
        refine nv_top (y := lN (dg v i)) (hB.2.1.1 i (by omega)) ?_
        refine lv_lconst (v := lN 0) hx hb d_Big_hasAnyBelow_26 rfl ?_
        refine nv_lcmp_eq (tgt := 33) hx hb d_Big_hasAnyBelow_27 d_Big_hasAnyBelow_28 (by decide) (by have := dg_lt v i; omega) (by decide) (fun c27 => ?_) (fun c27 => ?_)
        · refine lv_iinc (v := iZ (((i + 1 : Nat) : Int))) (lv' := [(3, .int (iZ (((i + 1 : Nat) : Int)))), (0, .ref h0), (1, .int (iZ (((k : Nat) : Int)))), (2, .int (iZ (((k / 9 : Nat) : Int))))]) hx hb d_Big_hasAnyBelow_33 hl (k := 3) rfl ((iZ_add _ _).trans (congrArg iZ (by omega))) (by decide) rfl (fun ls hl => ?_)
          refine lv_goto (tgt := 7) hx hb d_Big_hasAnyBelow_36 (by decide) ?_
          exact ih (i + 1) _ (by omega) (by omega) (by omega) (by rw [mod_pB_succ, hz, c27, Nat.mul_zero]) (hK.sub [0] rfl) (hP.sub [0, 1] rfl) (hD.sub [0, 1] (by decide) rfl) hS (lv_sub hl [1, 2, 3, 0] rfl)
        · refine lv_iconst (v := iZ (1)) hx hb d_Big_hasAnyBelow_31 rfl ?_
          exact er_z hx hb hr hlocks (by decide) d_Big_hasAnyBelow_32 (show iZ (1) = bZ (¬ v % 10 ^ k = 0) from (bZ_t (show ¬ v % 10 ^ k = 0 from fun q => c27 (low_any (k := k) (by omega) q))).symm)
set_option maxHeartbeats 4000000 in
set_option maxRecDepth 100000 in
theorem c_Big_hasAnyBelow (l : Launch) (D : va_G) (Z : Nat → Nat) (hz9 : Nat) (h0 : Nat) (q0 : Nat) (cA0 : ClassId) (f : Nat → Int64) (n : Nat) (v : Nat) (k : Nat) (hB : BigIs f n v) (hk : k < 2147483648) : Met l y_Big_hasAnyBelow (.code y_Big_hasAnyBelow b_Big_hasAnyBelow 4 (some .boolean) :: gT) ({ frames := 1, cells := 0, slots := 0, locals := 21 } : Room) (va_Pc [.ref h0, .int (iZ (((k : Nat) : Int)))] (cpre D Z [(h0, .inr (2, [.ref q0, .int (iZ (((n : Nat) : Int)))])), (q0, .inl (cA0, 124, .inr (.inl f)))] [(cA0, .long)] hz9)) (Qc_Big_hasAnyBelow D h0 q0 cA0 f n v k (va_A [(h0, .inr (2, [.ref q0, .int (iZ (((n : Nat) : Int)))])), (q0, .inl (cA0, 124, .inr (.inl f)))] hz9)) 0 0 (fun _ => False) := by
  refine met_go (Qf := Qc_Big_hasAnyBelow D h0 q0 cA0 f n v k) (ff := fun _ _ => False) (by decide) ?_
  intro p e s m below meth c A C0 hin hsz9 hA hE hK hP hD
  obtain ⟨hx, hb, hml, hown, hts, hr, hlocks⟩ := id C0
  have hS : va_S A s.heap s.heap [] := va_S.rf
  have hl := lv_entry [.ref h0, .int (iZ (((k : Nat) : Int)))] (n := 4) (Nat.le_of_ble_eq_true rfl)
  rw [lg_entry_eq]
  generalize (lg_sl [.ref h0, .int (iZ (((k : Nat) : Int)))] ++ List.replicate (4 - (lg_sl [.ref h0, .int (iZ (((k : Nat) : Int)))]).length) Slot.unset).toArray = ls at hl ⊢
  have hl : lv_has ls 4 [(0, .ref h0), (1, .int (iZ (((k : Nat) : Int))))] := hl
  refine lv_iload_n hx hb d_Big_hasAnyBelow_0 rfl (lv_at hl 1 rfl) ?_
  refine lv_bipush (v := iZ (9)) hx hb d_Big_hasAnyBelow_1 (by decide) ?_
  refine zv_idiv hx hb d_Big_hasAnyBelow_3 (by omega) (by omega) ?_
  refine zv_top (y := iZ (((k / 9 : Nat) : Int))) (congrArg iZ (by omega)) ?_
  refine lv_istore_n (lv' := [(2, .int (iZ (((k / 9 : Nat) : Int)))), (0, .ref h0), (1, .int (iZ (((k : Nat) : Int))))]) hx hb d_Big_hasAnyBelow_4 rfl hl (by decide) rfl (fun ls hl => ?_)
  refine lv_iconst (v := iZ (0)) hx hb d_Big_hasAnyBelow_5 rfl ?_
  refine lv_istore_n (lv' := [(3, .int (iZ (0))), (2, .int (iZ (((k / 9 : Nat) : Int)))), (0, .ref h0), (1, .int (iZ (((k : Nat) : Int))))]) hx hb d_Big_hasAnyBelow_6 rfl hl (by decide) rfl (fun ls hl => ?_)
  exact lp_Big_hasAnyBelow_7 h0 q0 cA0 f n v k hB hk C0 hA hE (k / 9 - 0 + 1) 0 _ (Nat.lt_succ_self _) (by omega) (by omega) (by rw [Nat.pow_zero, Nat.mod_one]) (hK.sub [0] rfl) (hP.sub [0, 1] rfl) (hD.sub [0, 1] (by decide) rfl) hS (lv_sub hl [2, 3, 1, 0] rfl)
abbrev Qc_Big_from (D : va_G) (h0 : Nat) (q0 : Nat) (cA0 : ClassId) (f : Nat → Int64) (n : Nat) (v : Nat) (k : Nat) (A : Nat → Prop) : Array Value → State → Outcome → State → Prop := vp_Sl (fun r : Int64 => r = lN (v / 10 ^ k))
set_option maxHeartbeats 4000000 in
set_option maxRecDepth 100000 in
theorem c_Big_from (l : Launch) (D : va_G) (Z : Nat → Nat) (hz9 : Nat) (h0 : Nat) (q0 : Nat) (cA0 : ClassId) (f : Nat → Int64) (n : Nat) (v : Nat) (k : Nat) (hB : BigIs f n v) (hk : k < 2147483000) (hlt : v / 10 ^ k < 9223372036854775808) : Met l y_Big_from (.code y_Big_from b_Big_from 4 (some .long) :: gT) ({ frames := 1, cells := 0, slots := 0, locals := 21 } : Room) (va_Pc [.ref h0, .int (iZ (((k : Nat) : Int)))] (cpre D Z [(h0, .inr (2, [.ref q0, .int (iZ (((n : Nat) : Int)))])), (q0, .inl (cA0, 124, .inr (.inl f)))] [(cA0, .long)] hz9)) (Qc_Big_from D h0 q0 cA0 f n v k (va_A [(h0, .inr (2, [.ref q0, .int (iZ (((n : Nat) : Int)))])), (q0, .inl (cA0, 124, .inr (.inl f)))] hz9)) 0 0 (fun _ => False) := by
  refine met_go (Qf := Qc_Big_from D h0 q0 cA0 f n v k) (ff := fun _ _ => False) (by decide) ?_
  intro p e s m below meth c A C0 hin hsz9 hA hE hK hP hD
  obtain ⟨hx, hb, hml, hown, hts, hr, hlocks⟩ := id C0
  have hS : va_S A s.heap s.heap [] := va_S.rf
  have hl := lv_entry [.ref h0, .int (iZ (((k : Nat) : Int)))] (n := 4) (Nat.le_of_ble_eq_true rfl)
  rw [lg_entry_eq]
  generalize (lg_sl [.ref h0, .int (iZ (((k : Nat) : Int)))] ++ List.replicate (4 - (lg_sl [.ref h0, .int (iZ (((k : Nat) : Int)))]).length) Slot.unset).toArray = ls at hl ⊢
  have hl : lv_has ls 4 [(0, .ref h0), (1, .int (iZ (((k : Nat) : Int))))] := hl
  refine lv_iload_n hx hb d_Big_from_0 rfl (lv_at hl 1 rfl) ?_
  refine lv_bipush (v := iZ (9)) hx hb d_Big_from_1 (by decide) ?_
  refine zv_idiv hx hb d_Big_from_3 (by omega) (by omega) ?_
  refine zv_top (y := iZ (((k / 9 : Nat) : Int))) (congrArg iZ (by omega)) ?_
  refine lv_istore_n (lv' := [(2, .int (iZ (((k / 9 : Nat) : Int)))), (0, .ref h0), (1, .int (iZ (((k : Nat) : Int))))]) hx hb d_Big_from_4 rfl hl (by decide) rfl (fun ls hl => ?_)
  refine lv_iload_n hx hb d_Big_from_5 rfl (lv_at hl 2 rfl) ?_
  refine lv_bipush (v := iZ (9)) hx hb d_Big_from_6 (by decide) ?_
  refine zv_irem hx hb d_Big_from_8 (by omega) (by omega) ?_
  refine zv_top (y := iZ (((k % 9 : Nat) : Int))) (congrArg iZ (by omega)) ?_
  refine lv_istore_n (lv' := [(3, .int (iZ (((k % 9 : Nat) : Int)))), (2, .int (iZ (((k / 9 : Nat) : Int)))), (0, .ref h0), (1, .int (iZ (((k : Nat) : Int))))]) hx hb d_Big_from_9 rfl hl (by decide) rfl (fun ls hl => ?_)
  refine lv_aload_n hx hb d_Big_from_10 rfl (lv_at hl 2 rfl) ?_
  refine lv_iload_n hx hb d_Big_from_11 rfl (lv_at hl 1 rfl) ?_
  refine kg_l (kr_V (C0 := R_Big) (ci := 2) (i0 := 0) (As := [.int (iZ (((k / 9 : Nat) : Int)))]) (rest := []) C0 (c_Big_limbAt l D Z _ h0 q0 cA0 f n v (k / 9) (by assumption) (by omega)) q_y_Big_limbAt kw_28_ kw_29_ kw_30_ kw_24_ hd_y_Big_limbAt rfl rfl ⟨Nat.le_of_ble_eq_true rfl, Nat.le_of_ble_eq_true rfl⟩ (hP.sub (ws' := [(h0, .inr (2, [.ref q0, .int (iZ (((n : Nat) : Int)))])), (q0, .inl (cA0, 124, .inr (.inl f)))]) [0, 1] rfl) (hD.sub (ws' := [(h0, .inr (2, [.ref q0, .int (iZ (((n : Nat) : Int)))])), (q0, .inl (cA0, 124, .inr (.inl f)))]) [0, 1] (by decide) rfl) (hK.sub (tys' := [(cA0, .long)]) [0] rfl) hE hS (va_free (wc := [(h0, .inr (2, [.ref q0, .int (iZ (((n : Nat) : Int)))])), (q0, .inl (cA0, 124, .inr (.inl f)))]) hD hS hA [0, 1] rfl) rfl rfl rfl hl.1 rfl (Nat.le_of_ble_eq_true rfl) d_Big_from_12 ⟨Nat.le_of_ble_eq_true rfl, Nat.le_of_ble_eq_true rfl⟩) (fun r hr1 => ?_)
  obtain rfl : r = lN (dg v (k / 9)) := hr1
  refine lv_iload_n hx hb d_Big_from_15 rfl (lv_at hl 0 rfl) ?_
  refine kg_l (kr_SN (host := R_FW) (As := [.int (iZ (((k % 9 : Nat) : Int)))]) (rest := [.long (lN (dg v (k / 9)))]) C0 (c_FW_tenTo l D Z _ (k % 9) (by omega)) q_y_FW_tenTo (hE.nw 3 rfl) kw_31_ kw_3_ hd_y_FW_tenTo rfl rfl ⟨Nat.le_of_ble_eq_true rfl, Nat.le_of_ble_eq_true rfl⟩ (hP.sub (ws' := []) [] rfl) (hD.sub (ws' := []) [] (by decide) rfl) (hK.sub (tys' := []) [] rfl) hE hS (va_free (wc := []) hD hS hA [] rfl) rfl hl.1 rfl (Nat.le_of_ble_eq_true rfl) d_Big_from_16 ⟨Nat.le_of_ble_eq_true rfl, Nat.le_of_ble_eq_true rfl⟩) (fun r hr1 => ?_)
  obtain rfl : r = lN (10 ^ (k % 9)) := hr1
  refine nv_ldiv hx hb d_Big_from_19 (by have := dg_lt v (k / 9); omega) (Nat.pow_pos (by decide)) (ten_63 (by omega)) ?_
  refine lv_aload_n hx hb d_Big_from_20 rfl (lv_at hl 2 rfl) ?_
  refine lv_iload_n hx hb d_Big_from_21 rfl (lv_at hl 1 rfl) ?_
  refine lv_iconst (v := iZ (1)) hx hb d_Big_from_22 rfl ?_
  refine zv_iadd hx hb d_Big_from_23 ?_
  refine zv_top (y := iZ ((((k / 9) + 1 : Nat) : Int))) (congrArg iZ (by omega)) ?_
  refine kg_l (kr_V (C0 := R_Big) (ci := 2) (i0 := 0) (As := [.int (iZ ((((k / 9) + 1 : Nat) : Int)))]) (rest := [.long (lN ((dg v (k / 9)) / (10 ^ (k % 9))))]) C0 (c_Big_limbAt l D Z _ h0 q0 cA0 f n v ((k / 9) + 1) (by assumption) (by omega)) q_y_Big_limbAt kw_28_ kw_29_ kw_30_ kw_24_ hd_y_Big_limbAt rfl rfl ⟨Nat.le_of_ble_eq_true rfl, Nat.le_of_ble_eq_true rfl⟩ (hP.sub (ws' := [(h0, .inr (2, [.ref q0, .int (iZ (((n : Nat) : Int)))])), (q0, .inl (cA0, 124, .inr (.inl f)))]) [0, 1] rfl) (hD.sub (ws' := [(h0, .inr (2, [.ref q0, .int (iZ (((n : Nat) : Int)))])), (q0, .inl (cA0, 124, .inr (.inl f)))]) [0, 1] (by decide) rfl) (hK.sub (tys' := [(cA0, .long)]) [0] rfl) hE hS (va_free (wc := [(h0, .inr (2, [.ref q0, .int (iZ (((n : Nat) : Int)))])), (q0, .inl (cA0, 124, .inr (.inl f)))]) hD hS hA [0, 1] rfl) rfl rfl rfl hl.1 rfl (Nat.le_of_ble_eq_true rfl) d_Big_from_24 ⟨Nat.le_of_ble_eq_true rfl, Nat.le_of_ble_eq_true rfl⟩) (fun r hr1 => ?_)
  obtain rfl : r = lN (dg v ((k / 9) + 1)) := hr1
  refine lv_bipush (v := iZ (9)) hx hb d_Big_from_27 (by decide) ?_
  refine lv_iload_n hx hb d_Big_from_29 rfl (lv_at hl 0 rfl) ?_
  refine zv_isub hx hb d_Big_from_30 ?_
  refine zv_top (y := iZ (((9 - k % 9 : Nat) : Int))) (congrArg iZ (by omega)) ?_
  refine kg_l (kr_SN (host := R_FW) (As := [.int (iZ (((9 - k % 9 : Nat) : Int)))]) (rest := [.long (lN (dg v ((k / 9) + 1))), .long (lN ((dg v (k / 9)) / (10 ^ (k % 9))))]) C0 (c_FW_tenTo l D Z _ (9 - k % 9) (by omega)) q_y_FW_tenTo (hE.nw 3 rfl) kw_31_ kw_3_ hd_y_FW_tenTo rfl rfl ⟨Nat.le_of_ble_eq_true rfl, Nat.le_of_ble_eq_true rfl⟩ (hP.sub (ws' := []) [] rfl) (hD.sub (ws' := []) [] (by decide) rfl) (hK.sub (tys' := []) [] rfl) hE hS (va_free (wc := []) hD hS hA [] rfl) rfl hl.1 rfl (Nat.le_of_ble_eq_true rfl) d_Big_from_31 ⟨Nat.le_of_ble_eq_true rfl, Nat.le_of_ble_eq_true rfl⟩) (fun r hr1 => ?_)
  obtain rfl : r = lN (10 ^ (9 - k % 9)) := hr1
  refine nv_lmul hx hb d_Big_from_34 ?_
  refine nv_ladd hx hb d_Big_from_35 ?_
  refine lv_aload_n hx hb d_Big_from_36 rfl (lv_at hl 2 rfl) ?_
  refine lv_iload_n hx hb d_Big_from_37 rfl (lv_at hl 1 rfl) ?_
  refine lv_iconst (v := iZ (2)) hx hb d_Big_from_38 rfl ?_
  refine zv_iadd hx hb d_Big_from_39 ?_
  refine zv_top (y := iZ ((((k / 9) + 2 : Nat) : Int))) (congrArg iZ (by omega)) ?_
  refine kg_l (kr_V (C0 := R_Big) (ci := 2) (i0 := 0) (As := [.int (iZ ((((k / 9) + 2 : Nat) : Int)))]) (rest := [.long (lN (((dg v (k / 9)) / (10 ^ (k % 9))) + ((dg v ((k / 9) + 1)) * (10 ^ (9 - k % 9)))))]) C0 (c_Big_limbAt l D Z _ h0 q0 cA0 f n v ((k / 9) + 2) (by assumption) (by omega)) q_y_Big_limbAt kw_28_ kw_29_ kw_30_ kw_24_ hd_y_Big_limbAt rfl rfl ⟨Nat.le_of_ble_eq_true rfl, Nat.le_of_ble_eq_true rfl⟩ (hP.sub (ws' := [(h0, .inr (2, [.ref q0, .int (iZ (((n : Nat) : Int)))])), (q0, .inl (cA0, 124, .inr (.inl f)))]) [0, 1] rfl) (hD.sub (ws' := [(h0, .inr (2, [.ref q0, .int (iZ (((n : Nat) : Int)))])), (q0, .inl (cA0, 124, .inr (.inl f)))]) [0, 1] (by decide) rfl) (hK.sub (tys' := [(cA0, .long)]) [0] rfl) hE hS (va_free (wc := [(h0, .inr (2, [.ref q0, .int (iZ (((n : Nat) : Int)))])), (q0, .inl (cA0, 124, .inr (.inl f)))]) hD hS hA [0, 1] rfl) rfl rfl rfl hl.1 rfl (Nat.le_of_ble_eq_true rfl) d_Big_from_40 ⟨Nat.le_of_ble_eq_true rfl, Nat.le_of_ble_eq_true rfl⟩) (fun r hr1 => ?_)
  obtain rfl : r = lN (dg v ((k / 9) + 2)) := hr1
  refine lv_bipush (v := iZ (18)) hx hb d_Big_from_43 (by decide) ?_
  refine lv_iload_n hx hb d_Big_from_45 rfl (lv_at hl 0 rfl) ?_
  refine zv_isub hx hb d_Big_from_46 ?_
  refine zv_top (y := iZ (((18 - k % 9 : Nat) : Int))) (congrArg iZ (by omega)) ?_
  refine kg_l (kr_SN (host := R_FW) (As := [.int (iZ (((18 - k % 9 : Nat) : Int)))]) (rest := [.long (lN (dg v ((k / 9) + 2))), .long (lN (((dg v (k / 9)) / (10 ^ (k % 9))) + ((dg v ((k / 9) + 1)) * (10 ^ (9 - k % 9)))))]) C0 (c_FW_tenTo l D Z _ (18 - k % 9) (by omega)) q_y_FW_tenTo (hE.nw 3 rfl) kw_31_ kw_3_ hd_y_FW_tenTo rfl rfl ⟨Nat.le_of_ble_eq_true rfl, Nat.le_of_ble_eq_true rfl⟩ (hP.sub (ws' := []) [] rfl) (hD.sub (ws' := []) [] (by decide) rfl) (hK.sub (tys' := []) [] rfl) hE hS (va_free (wc := []) hD hS hA [] rfl) rfl hl.1 rfl (Nat.le_of_ble_eq_true rfl) d_Big_from_47 ⟨Nat.le_of_ble_eq_true rfl, Nat.le_of_ble_eq_true rfl⟩) (fun r hr1 => ?_)
  obtain rfl : r = lN (10 ^ (18 - k % 9)) := hr1
  refine nv_lmul hx hb d_Big_from_50 ?_
  refine nv_ladd hx hb d_Big_from_51 ?_
  exact er_l hx hb hr hlocks d_Big_from_52 (show lN ((((dg v (k / 9)) / (10 ^ (k % 9))) + ((dg v ((k / 9) + 1)) * (10 ^ (9 - k % 9)))) + ((dg v ((k / 9) + 2)) * (10 ^ (18 - k % 9)))) = lN (v / 10 ^ k) from congrArg lN (from_limb hlt).symm)
abbrev Qc_Big_addTenTo (D : va_G) (h0 : Nat) (q0 : Nat) (cA0 : ClassId) (f : Nat → Int64) (n : Nat) (v : Nat) (k : Nat) (A : Nat → Prop) : Array Value → State → Outcome → State → Prop := va_Qv (fun u : (Nat → Int64) × Nat => BigIs (u.1) (u.2) (v + 10 ^ k)) (fun (u : (Nat → Int64) × Nat) t9 => cpost D A [(h0, .inr (2, [.ref q0, .int (iZ ((((u.2) : Nat) : Int)))])), (q0, .inl (cA0, 124, .inr (.inl ((u.1)))))] [(cA0, .long)] t9) A
set_option maxHeartbeats 4000000 in
set_option maxRecDepth 100000 in
theorem lp_Big_addTenTo_91 {p : Program} {l : Launch} {e : Env} {s : State} {m : MethodId} {args : Array Value} {below : List Frame} {meth : Method} {c : Code} {A : Nat → Prop} {D : va_G} {Z : Nat → Nat} (h0 : Nat) (q0 : Nat) (cA0 : ClassId) (f : Nat → Int64) (n : Nat) (v : Nat) (k : Nat) (hB : BigIs f n v) (hk : k < 1110) (hvk : v + 10 ^ k < 1000000000 ^ 124) (C0 : cxA p s m args meth c b_Big_addTenTo 8 R_Big none) (hA : ∀ q : Nat, s.heap.size ≤ q → A q) (hE : Ev Z A s s.heap) : ∀ (N : Nat) (g : Nat → Int64) (ca : Nat) (k2 : Nat) (H : Heap) (locs : List Loc) (ls : Array Slot), 0 < N → (k2 = max n (k / 9 + 1)) → (ca < 1000000000) → ((v + 10 ^ k) / 1000000000 ^ k2 = ca) → (∀ j, j < k2 → g j = lN (dg (v + 10 ^ k) j)) → va_K D classes [(cA0, .long)] s → va_P D classes [(h0, .inr (2, [.ref q0, .int (iZ (((k2 : Nat) : Int)))])), (q0, .inl (cA0, 124, .inr (.inl g)))] H → va_D A [(h0, .inr (2, [.ref q0, .int (iZ (((k2 : Nat) : Int)))])), (q0, .inl (cA0, 124, .inr (.inl g)))] → va_S A s.heap H locs → lv_has ls 8 [(0, .ref h0), (3, .long (lN (ca)))] → W p l e ({ frames := 1, cells := 0, slots := 0, locals := 22 } : Room) s m args below meth c H locs 0 0 (MQ below (Qc_Big_addTenTo D h0 q0 cA0 f n v k A) args s 0 0 A) (F0 m 91 ls []) := by
  obtain ⟨hx, hb, hml, hown, hts, hr, hlocks⟩ := id C0
  intro N
  induction N with
  | zero => intro g ca k2 H locs ls hN; exact absurd hN (Nat.not_lt_zero _)
  | succ N ih =>
    intro g ca k2 H locs ls hN hk2 hca hw hg1 hK hP hD hS hl
    refine lv_lload_n hx hb d_Big_addTenTo_91 rfl (lv_at hl 1 rfl) ?_
    refine lv_lconst (v := lN 0) hx hb d_Big_addTenTo_92 rfl ?_
    refine nv_lcmp_eq (tgt := 102) hx hb d_Big_addTenTo_93 d_Big_addTenTo_94 (by decide) (by omega) (by decide) (fun c93 => ?_) (fun c93 => ?_)
    · exact ew_v (g, k2) hx hb hr hlocks d_Big_addTenTo_102 (show BigIs g k2 (v + 10 ^ k) from big_end hg1 (by rw [hw]; exact c93) (add_top hB hk2) hvk) (hP.sub (ws' := [(h0, .inr (2, [.ref q0, .int (iZ (((k2 : Nat) : Int)))])), (q0, .inl (cA0, 124, .inr (.inl g)))]) [0, 1] rfl) (hD.sub (ws' := [(h0, .inr (2, [.ref q0, .int (iZ (((k2 : Nat) : Int)))])), (q0, .inl (cA0, 124, .inr (.inl g)))]) [0, 1] (by decide) rfl) (hK.sub (tys' := [(cA0, .long)]) [0] rfl) hS (Nat.le_of_ble_eq_true rfl) (Nat.le_of_ble_eq_true rfl)
    · refine lv_aload_n hx hb d_Big_addTenTo_97 rfl (lv_at hl 0 rfl) ?_
      refine lv_lload_n hx hb d_Big_addTenTo_98 rfl (lv_at hl 1 rfl) ?_
      refine kw_v (wr := []) (tr := []) (kr_V (C0 := R_Big) (ci := 2) (i0 := 0) (As := [.long (lN (ca))]) (rest := []) C0 (c_Big_append l D Z _ h0 q0 cA0 g k2 ca (pB_lt (prod_more (by rw [hw]; exact c93)) hvk)) q_y_Big_append kw_25_ kw_26_ kw_27_ kw_24_ hd_y_Big_append rfl rfl ⟨Nat.le_of_ble_eq_true rfl, Nat.le_of_ble_eq_true rfl⟩ (hP.sub (ws' := [(h0, .inr (2, [.ref q0, .int (iZ (((k2 : Nat) : Int)))])), (q0, .inl (cA0, 124, .inr (.inl g)))]) [0, 1] rfl) (hD.sub (ws' := [(h0, .inr (2, [.ref q0, .int (iZ (((k2 : Nat) : Int)))])), (q0, .inl (cA0, 124, .inr (.inl g)))]) [0, 1] (by decide) rfl) (hK.sub (tys' := [(cA0, .long)]) [0] rfl) hE hS (va_free (wc := [(h0, .inr (2, [.ref q0, .int (iZ (((k2 : Nat) : Int)))])), (q0, .inl (cA0, 124, .inr (.inl g)))]) hD hS hA [0, 1] rfl) rfl rfl rfl hl.1 rfl (Nat.le_of_ble_eq_true rfl) d_Big_addTenTo_99 ⟨Nat.le_of_ble_eq_true rfl, Nat.le_of_ble_eq_true rfl⟩) hP hD hK hS hA [0, 1] [] [] rfl rfl (by decide) (by decide) rfl (fun u H locs hpost hP hD hK hS => ?_)
      have hP : va_P D classes [(h0, .inr (2, [.ref q0, .int (iZ (((k2 + 1 : Nat) : Int)))])), (q0, .inl (cA0, 124, .inr (.inl (vp_updL g k2 (lN ca)))))] H := hP
      have hD : va_D A [(h0, .inr (2, [.ref q0, .int (iZ (((k2 + 1 : Nat) : Int)))])), (q0, .inl (cA0, 124, .inr (.inl (vp_updL g k2 (lN ca)))))] := hD
      have hK : va_K D classes [(cA0, .long)] s := hK
      exact ew_v (vp_updL g k2 (lN ca), k2 + 1) hx hb hr hlocks d_Big_addTenTo_102 (show BigIs (vp_updL g k2 (lN ca)) (k2 + 1) (v + 10 ^ k) from big_end (limbs_up (f := f) (n := n) hg1 (by unfold dg; rw [hw, Nat.mod_eq_of_lt hca])) (by rw [Nat.pow_succ, ← Nat.div_div_eq_div_mul, hw]; omega) (Or.inr (prod_more (by rw [Nat.add_sub_cancel, hw]; exact c93))) hvk) (hP.sub (ws' := [(h0, .inr (2, [.ref q0, .int (iZ ((((k2 + 1) : Nat) : Int)))])), (q0, .inl (cA0, 124, .inr (.inl ((vp_updL g k2 (lN ca))))))]) [0, 1] rfl) (hD.sub (ws' := [(h0, .inr (2, [.ref q0, .int (iZ ((((k2 + 1) : Nat) : Int)))])), (q0, .inl (cA0, 124, .inr (.inl ((vp_updL g k2 (lN ca))))))]) [0, 1] (by decide) rfl) (hK.sub (tys' := [(cA0, .long)]) [0] rfl) hS (Nat.le_of_ble_eq_true rfl) (Nat.le_of_ble_eq_true rfl)
set_option maxHeartbeats 4000000 in
set_option maxRecDepth 100000 in
theorem lp_Big_addTenTo_37 {p : Program} {l : Launch} {e : Env} {s : State} {m : MethodId} {args : Array Value} {below : List Frame} {meth : Method} {c : Code} {A : Nat → Prop} {D : va_G} {Z : Nat → Nat} (h0 : Nat) (q0 : Nat) (cA0 : ClassId) (f : Nat → Int64) (n : Nat) (v : Nat) (k : Nat) (hB : BigIs f n v) (hk : k < 1110) (hvk : v + 10 ^ k < 1000000000 ^ 124) (C0 : cxA p s m args meth c b_Big_addTenTo 8 R_Big none) (hA : ∀ q : Nat, s.heap.size ≤ q → A q) (hE : Ev Z A s s.heap) : ∀ (N : Nat) (i : Nat) (g : Nat → Int64) (ca : Nat) (k2 : Nat) (H : Heap) (locs : List Loc) (ls : Array Slot), k2 - i < N → (k2 = max n (k / 9 + 1)) → (k / 9 ≤ i ∧ i ≤ k2) → (ca ≤ 1000000000 ∧ (k / 9 < i → ca ≤ 1)) → ((v + 10 ^ k) / 1000000000 ^ i = v / 1000000000 ^ i + ca) → (∀ j, j < i → g j = lN (dg (v + 10 ^ k) j)) → (∀ j, i ≤ j → j < k2 → g j = lN (dg v j)) → va_K D classes [(cA0, .long)] s → va_P D classes [(h0, .inr (2, [.ref q0, .int (iZ (((k2 : Nat) : Int)))])), (q0, .inl (cA0, 124, .inr (.inl g)))] H → va_D A [(h0, .inr (2, [.ref q0, .int (iZ (((k2 : Nat) : Int)))])), (q0, .inl (cA0, 124, .inr (.inl g)))] → va_S A s.heap H locs → lv_has ls 8 [(0, .ref h0), (3, .long (lN (ca))), (5, .int (iZ (((i : Nat) : Int))))] → W p l e ({ frames := 1, cells := 0, slots := 0, locals := 22 } : Room) s m args below meth c H locs 0 0 (MQ below (Qc_Big_addTenTo D h0 q0 cA0 f n v k A) args s 0 0 A) (F0 m 37 ls []) := by
  obtain ⟨hx, hb, hml, hown, hts, hr, hlocks⟩ := id C0
  intro N
  induction N with
  | zero => intro i g ca k2 H locs ls hN; exact absurd hN (Nat.not_lt_zero _)
  | succ N ih =>
    intro i g ca k2 H locs ls hN hk2 hi hca hw hg1 hg2 hK hP hD hS hl
    refine lv_iload hx hb d_Big_addTenTo_37 (lv_at hl 2 rfl) ?_
    refine lv_aload_n hx hb d_Big_addTenTo_39 rfl (lv_at hl 0 rfl) ?_
    refine va_get (D := D) (ci := 2) (v := .int (iZ (((k2 : Nat) : Int)))) (C := R_Big) (T := F_Big) (N := 2) hx hb hts i_Big hown hK hP 0 rfl rfl 1 (by decide) (hts _ kw_23_) (fun _ h9 => h9) rfl d_Big_addTenTo_40 ?_
    refine zv_icmp_ge (tgt := 91) hx hb d_Big_addTenTo_43 (by decide) (by have := hB.1; omega) (by have := hB.1; omega) (fun c43 => ?_) (fun c43 => ?_)
    · exact lp_Big_addTenTo_91 h0 q0 cA0 f n v k hB hk hvk C0 hA hE (0 + 1) g ca k2 _ _ _ (Nat.lt_succ_self _) (by omega) (by omega) (by rw [← show i = k2 by omega, hw, show v / 1000000000 ^ i = 0 from Nat.div_eq_of_lt (Nat.lt_of_lt_of_le hB.2.1.2 (pB_mono (by omega))), Nat.zero_add]) (fun j h => hg1 j (by omega)) (hK.sub [0] rfl) (hP.sub [0, 1] rfl) (hD.sub [0, 1] (by decide) rfl) hS (lv_sub hl [0, 1] rfl)
    · refine lv_lload_n hx hb d_Big_addTenTo_46 rfl (lv_at hl 1 rfl) ?_
      refine lv_lconst (v := lN 0) hx hb d_Big_addTenTo_47 rfl ?_
      refine nv_lcmp_eq (tgt := 91) hx hb d_Big_addTenTo_48 d_Big_addTenTo_49 (by decide) (by omega) (by decide) (fun c48 => ?_) (fun c48 => ?_)
      · exact lp_Big_addTenTo_91 h0 q0 cA0 f n v k hB hk hvk C0 hA hE (0 + 1) g ca k2 _ _ _ (Nat.lt_succ_self _) (by omega) (by omega) (by rw [c48]; rw [c48, Nat.add_zero] at hw; exact add_zero_end hw (by omega) (Nat.lt_of_lt_of_le hB.2.1.2 (pB_mono (by omega)))) (fun j h => by
  rw [c48, Nat.add_zero] at hw
  rcases Nat.lt_or_ge j i with q | q
  · exact hg1 j q
  · rw [add_rest hw q]; exact hg2 j q h) (hK.sub [0] rfl) (hP.sub [0, 1] rfl) (hD.sub [0, 1] (by decide) rfl) hS (lv_sub hl [0, 1] rfl)
      · refine lv_aload_n hx hb d_Big_addTenTo_52 rfl (lv_at hl 0 rfl) ?_
        refine va_get (D := D) (ci := 2) (v := .ref q0) (C := R_Big) (T := F_Big) (N := 2) hx hb hts i_Big hown hK hP 0 rfl rfl 0 (by decide) (hts _ kw_22_) (fun _ h9 => h9) rfl d_Big_addTenTo_53 ?_
        refine lv_iload hx hb d_Big_addTenTo_56 (lv_at hl 2 rfl) ?_
        refine zv_lald hx hb hK hP 1 0 rfl rfl i (by omega) (by have := hB.1; omega) (by decide) d_Big_addTenTo_58 ?_
        refine nv_top (y := lN (dg v i)) (hg2 i (Nat.le_refl i) (by omega)) ?_
        refine lv_lload_n hx hb d_Big_addTenTo_59 rfl (lv_at hl 1 rfl) ?_
        refine nv_ladd hx hb d_Big_addTenTo_60 ?_
        refine nv_nm (fun sm h_sm => ?_)
        refine lv_lstore (lv' := [(6, .long (lN (sm))), (0, .ref h0), (3, .long (lN (ca))), (5, .int (iZ (((i : Nat) : Int))))]) hx hb d_Big_addTenTo_61 hl (by decide) rfl (fun ls hl => ?_)
        have hsm : sm < 2000000000 := by have := dg_lt v i; omega
        obtain ⟨st1, st2⟩ := add_step (i := i) hw
        rw [← h_sm] at st1 st2
        refine lv_lload hx hb d_Big_addTenTo_63 (lv_at hl 0 rfl) ?_
        refine lv_ldc2 (v := (1000000000)) hx hb hown (hts _ kw_33_) d_Big_addTenTo_65 ?_
        refine nv_top (y := lN 1000000000) (by decide) ?_
        refine nv_ldiv hx hb d_Big_addTenTo_68 (by omega) (by omega) (by omega) ?_
        refine lv_lstore_n (lv' := [(3, .long (lN (sm / 1000000000))), (6, .long (lN (sm))), (0, .ref h0), (5, .int (iZ (((i : Nat) : Int))))]) hx hb d_Big_addTenTo_69 rfl hl (by decide) rfl (fun ls hl => ?_)
        refine lv_aload_n hx hb d_Big_addTenTo_70 rfl (lv_at hl 2 rfl) ?_
        refine va_get (D := D) (ci := 2) (v := .ref q0) (C := R_Big) (T := F_Big) (N := 2) hx hb hts i_Big hown hK hP 0 rfl rfl 0 (by decide) (hts _ kw_22_) (fun _ h9 => h9) rfl d_Big_addTenTo_71 ?_
        refine lv_iload hx hb d_Big_addTenTo_74 (lv_at hl 3 rfl) ?_
        refine lv_lload hx hb d_Big_addTenTo_76 (lv_at hl 1 rfl) ?_
        refine lv_lload_n hx hb d_Big_addTenTo_78 rfl (lv_at hl 0 rfl) ?_
        refine lv_ldc2 (v := (1000000000)) hx hb hown (hts _ kw_33_) d_Big_addTenTo_79 ?_
        refine nv_top (y := lN 1000000000) (by decide) ?_
        refine nv_lmul hx hb d_Big_addTenTo_82 ?_
        refine nv_lsub hx hb d_Big_addTenTo_83 (Nat.div_mul_le_self _ _) ?_
        refine nv_top (y := lN (sm % 1000000000)) (congrArg lN (by omega)) ?_
        refine zv_last hx hb hK hP hD hS 1 0 rfl rfl i (by omega) (by have := hB.1; omega) (by decide) d_Big_addTenTo_84 (fun H locs hP hD hS => ?_)
        have hP : va_P D classes [(h0, .inr (2, [.ref q0, .int (iZ (((k2 : Nat) : Int)))])), (q0, .inl (cA0, 124, .inr (.inl (vp_updL g i (lN (sm % 1000000000))))))] H := hP
        have hD : va_D A [(h0, .inr (2, [.ref q0, .int (iZ (((k2 : Nat) : Int)))])), (q0, .inl (cA0, 124, .inr (.inl (vp_updL g i (lN (sm % 1000000000))))))] := hD
        refine lv_iinc (v := iZ (((i + 1 : Nat) : Int))) (lv' := [(5, .int (iZ (((i + 1 : Nat) : Int)))), (3, .long (lN (sm / 1000000000))), (6, .long (lN (sm))), (0, .ref h0)]) hx hb d_Big_addTenTo_85 hl (k := 3) rfl ((iZ_add _ _).trans (congrArg iZ (by omega))) (by decide) rfl (fun ls hl => ?_)
        refine lv_goto (tgt := 37) hx hb d_Big_addTenTo_88 (by decide) ?_
        exact ih (i + 1) (vp_updL g i (lN (sm % 1000000000))) (sm / 1000000000) k2 _ _ _ (by omega) (by omega) (by omega) (by omega) (st2) (limbs_up (f := f) (n := n) hg1 st1) (limbs_keep (f := fun j => lN (dg v j)) (P := fun j => j < k2) hg2) (hK.sub [0] rfl) (hP.sub [0, 1] rfl) (hD.sub [0, 1] (by decide) rfl) hS (lv_sub hl [3, 1, 0] rfl)
set_option maxHeartbeats 4000000 in
set_option maxRecDepth 100000 in
theorem lp_Big_addTenTo_10 {p : Program} {l : Launch} {e : Env} {s : State} {m : MethodId} {args : Array Value} {below : List Frame} {meth : Method} {c : Code} {A : Nat → Prop} {D : va_G} {Z : Nat → Nat} (h0 : Nat) (q0 : Nat) (cA0 : ClassId) (f : Nat → Int64) (n : Nat) (v : Nat) (k : Nat) (hB : BigIs f n v) (hk : k < 1110) (hvk : v + 10 ^ k < 1000000000 ^ 124) (C0 : cxA p s m args meth c b_Big_addTenTo 8 R_Big none) (hA : ∀ q : Nat, s.heap.size ≤ q → A q) (hE : Ev Z A s s.heap) : ∀ (N : Nat) (i : Nat) (g : Nat → Int64) (H : Heap) (locs : List Loc) (ls : Array Slot), k / 9 + 1 - i < N → (n ≤ i ∧ i ≤ max n (k / 9 + 1)) → (∀ j, j < i → g j = lN (dg v j)) → va_K D classes [(cA0, .long)] s → va_P D classes [(h0, .inr (2, [.ref q0, .int (iZ (((i : Nat) : Int)))])), (q0, .inl (cA0, 124, .inr (.inl g)))] H → va_D A [(h0, .inr (2, [.ref q0, .int (iZ (((i : Nat) : Int)))])), (q0, .inl (cA0, 124, .inr (.inl g)))] → va_S A s.heap H locs → lv_has ls 8 [(0, .ref h0), (1, .int (iZ (((k : Nat) : Int)))), (2, .int (iZ (((k / 9 : Nat) : Int)))), (3, .int (iZ (((i : Nat) : Int))))] → W p l e ({ frames := 1, cells := 0, slots := 0, locals := 22 } : Room) s m args below meth c H locs 0 0 (MQ below (Qc_Big_addTenTo D h0 q0 cA0 f n v k A) args s 0 0 A) (F0 m 10 ls []) := by
  obtain ⟨hx, hb, hml, hown, hts, hr, hlocks⟩ := id C0
  intro N
  induction N with
  | zero => intro i g H locs ls hN; exact absurd hN (Nat.not_lt_zero _)
  | succ N ih =>
    intro i g H locs ls hN hi hg hK hP hD hS hl
    refine lv_iload_n hx hb d_Big_addTenTo_10 rfl (lv_at hl 3 rfl) ?_
    refine lv_iload_n hx hb d_Big_addTenTo_11 rfl (lv_at hl 2 rfl) ?_
    refine zv_icmp_gt (tgt := 26) hx hb d_Big_addTenTo_12 (by decide) (by have := hB.1; omega) (by omega) (fun c12 => ?_) (fun c12 => ?_)
    · refine lv_iload_n hx hb d_Big_addTenTo_26 rfl (lv_at hl 1 rfl) ?_
      refine lv_bipush (v := iZ (9)) hx hb d_Big_addTenTo_27 (by decide) ?_
      refine zv_irem hx hb d_Big_addTenTo_29 (by omega) (by omega) ?_
      refine zv_top (y := iZ (((k % 9 : Nat) : Int))) (congrArg iZ (by omega)) ?_
      refine kg_l (kr_SN (host := R_FW) (As := [.int (iZ (((k % 9 : Nat) : Int)))]) (rest := []) C0 (c_FW_tenTo l D Z _ (k % 9) (by omega)) q_y_FW_tenTo (hE.nw 3 rfl) kw_31_ kw_3_ hd_y_FW_tenTo rfl rfl ⟨Nat.le_of_ble_eq_true rfl, Nat.le_of_ble_eq_true rfl⟩ (hP.sub (ws' := []) [] rfl) (hD.sub (ws' := []) [] (by decide) rfl) (hK.sub (tys' := []) [] rfl) hE hS (va_free (wc := []) hD hS hA [] rfl) rfl hl.1 rfl (Nat.le_of_ble_eq_true rfl) d_Big_addTenTo_30 ⟨Nat.le_of_ble_eq_true rfl, Nat.le_of_ble_eq_true rfl⟩) (fun r hr1 => ?_)
      obtain rfl : r = lN (10 ^ (k % 9)) := hr1
      refine lv_lstore_n (lv' := [(3, .long (lN (10 ^ (k % 9)))), (0, .ref h0), (1, .int (iZ (((k : Nat) : Int)))), (2, .int (iZ (((k / 9 : Nat) : Int))))]) hx hb d_Big_addTenTo_33 rfl hl (by decide) rfl (fun ls hl => ?_)
      refine lv_iload_n hx hb d_Big_addTenTo_34 rfl (lv_at hl 3 rfl) ?_
      refine lv_istore (lv' := [(5, .int (iZ (((k / 9 : Nat) : Int)))), (3, .long (lN (10 ^ (k % 9)))), (0, .ref h0), (1, .int (iZ (((k : Nat) : Int)))), (2, .int (iZ (((k / 9 : Nat) : Int))))]) hx hb d_Big_addTenTo_35 hl (by decide) rfl (fun ls hl => ?_)
      obtain ⟨as1, as2⟩ := add_start (v := v) (w := v + 10 ^ k) (s := k / 9) (r := k % 9) (by rw [← p9]; congr 2; omega)
      have hb10 : 10 ^ (k % 9) ≤ 1000000000 := p10_le (j := 9) (by omega)
      exact lp_Big_addTenTo_37 h0 q0 cA0 f n v k hB hk hvk C0 hA hE (i - (k / 9) + 1) (k / 9) g (10 ^ (k % 9)) i _ _ _ (Nat.lt_succ_self _) (by omega) (by omega) (by omega) (as1) (fun j h => by rw [as2 j h]; exact hg j (by omega)) (fun j _ h => hg j h) (hK.sub [0] rfl) (hP.sub [0, 1] rfl) (hD.sub [0, 1] (by decide) rfl) hS (lv_sub hl [2, 1, 0] rfl)
    · refine lv_aload_n hx hb d_Big_addTenTo_15 rfl (lv_at hl 0 rfl) ?_
      refine lv_lconst (v := lN 0) hx hb d_Big_addTenTo_16 rfl ?_
      refine kw_v (wr := []) (tr := []) (kr_V (C0 := R_Big) (ci := 2) (i0 := 0) (As := [.long (lN (0))]) (rest := []) C0 (c_Big_append l D Z _ h0 q0 cA0 g i 0 (by omega)) q_y_Big_append kw_25_ kw_26_ kw_27_ kw_24_ hd_y_Big_append rfl rfl ⟨Nat.le_of_ble_eq_true rfl, Nat.le_of_ble_eq_true rfl⟩ (hP.sub (ws' := [(h0, .inr (2, [.ref q0, .int (iZ (((i : Nat) : Int)))])), (q0, .inl (cA0, 124, .inr (.inl g)))]) [0, 1] rfl) (hD.sub (ws' := [(h0, .inr (2, [.ref q0, .int (iZ (((i : Nat) : Int)))])), (q0, .inl (cA0, 124, .inr (.inl g)))]) [0, 1] (by decide) rfl) (hK.sub (tys' := [(cA0, .long)]) [0] rfl) hE hS (va_free (wc := [(h0, .inr (2, [.ref q0, .int (iZ (((i : Nat) : Int)))])), (q0, .inl (cA0, 124, .inr (.inl g)))]) hD hS hA [0, 1] rfl) rfl rfl rfl hl.1 rfl (Nat.le_of_ble_eq_true rfl) d_Big_addTenTo_17 ⟨Nat.le_of_ble_eq_true rfl, Nat.le_of_ble_eq_true rfl⟩) hP hD hK hS hA [0, 1] [] [] rfl rfl (by decide) (by decide) rfl (fun u H locs hpost hP hD hK hS => ?_)
      have hP : va_P D classes [(h0, .inr (2, [.ref q0, .int (iZ (((i + 1 : Nat) : Int)))])), (q0, .inl (cA0, 124, .inr (.inl (vp_updL g i (lN 0)))))] H := hP
      have hD : va_D A [(h0, .inr (2, [.ref q0, .int (iZ (((i + 1 : Nat) : Int)))])), (q0, .inl (cA0, 124, .inr (.inl (vp_updL g i (lN 0)))))] := hD
      have hK : va_K D classes [(cA0, .long)] s := hK
      refine lv_iinc (v := iZ (((i + 1 : Nat) : Int))) (lv' := [(3, .int (iZ (((i + 1 : Nat) : Int)))), (0, .ref h0), (1, .int (iZ (((k : Nat) : Int)))), (2, .int (iZ (((k / 9 : Nat) : Int))))]) hx hb d_Big_addTenTo_20 hl (k := 3) rfl ((iZ_add _ _).trans (congrArg iZ (by omega))) (by decide) rfl (fun ls hl => ?_)
      refine lv_goto (tgt := 10) hx hb d_Big_addTenTo_23 (by decide) ?_
      exact ih (i + 1) (vp_updL g i (lN 0)) _ _ _ (by omega) (by omega) (limbs_up (f := f) (n := n) hg (hB.limb (by omega)).symm) (hK.sub [0] rfl) (hP.sub [0, 1] rfl) (hD.sub [0, 1] (by decide) rfl) hS (lv_sub hl [1, 2, 3, 0] rfl)
set_option maxHeartbeats 4000000 in
set_option maxRecDepth 100000 in
theorem c_Big_addTenTo (l : Launch) (D : va_G) (Z : Nat → Nat) (hz9 : Nat) (h0 : Nat) (q0 : Nat) (cA0 : ClassId) (f : Nat → Int64) (n : Nat) (v : Nat) (k : Nat) (hB : BigIs f n v) (hk : k < 1110) (hvk : v + 10 ^ k < 1000000000 ^ 124) : Met l y_Big_addTenTo (.code y_Big_addTenTo b_Big_addTenTo 8 none :: gT) ({ frames := 1, cells := 0, slots := 0, locals := 22 } : Room) (va_Pc [.ref h0, .int (iZ (((k : Nat) : Int)))] (cpre D Z [(h0, .inr (2, [.ref q0, .int (iZ (((n : Nat) : Int)))])), (q0, .inl (cA0, 124, .inr (.inl f)))] [(cA0, .long)] hz9)) (Qc_Big_addTenTo D h0 q0 cA0 f n v k (va_A [(h0, .inr (2, [.ref q0, .int (iZ (((n : Nat) : Int)))])), (q0, .inl (cA0, 124, .inr (.inl f)))] hz9)) 0 0 (va_A [(h0, .inr (2, [.ref q0, .int (iZ (((n : Nat) : Int)))])), (q0, .inl (cA0, 124, .inr (.inl f)))] hz9) := by
  refine met_go (Qf := Qc_Big_addTenTo D h0 q0 cA0 f n v k) (ff := fun A => A) (by decide) ?_
  intro p e s m below meth c A C0 hin hsz9 hA hE hK hP hD
  obtain ⟨hx, hb, hml, hown, hts, hr, hlocks⟩ := id C0
  have hS : va_S A s.heap s.heap [] := va_S.rf
  have hl := lv_entry [.ref h0, .int (iZ (((k : Nat) : Int)))] (n := 8) (Nat.le_of_ble_eq_true rfl)
  rw [lg_entry_eq]
  generalize (lg_sl [.ref h0, .int (iZ (((k : Nat) : Int)))] ++ List.replicate (8 - (lg_sl [.ref h0, .int (iZ (((k : Nat) : Int)))]).length) Slot.unset).toArray = ls at hl ⊢
  have hl : lv_has ls 8 [(0, .ref h0), (1, .int (iZ (((k : Nat) : Int))))] := hl
  refine lv_iload_n hx hb d_Big_addTenTo_0 rfl (lv_at hl 1 rfl) ?_
  refine lv_bipush (v := iZ (9)) hx hb d_Big_addTenTo_1 (by decide) ?_
  refine zv_idiv hx hb d_Big_addTenTo_3 (by omega) (by omega) ?_
  refine zv_top (y := iZ (((k / 9 : Nat) : Int))) (congrArg iZ (by omega)) ?_
  refine lv_istore_n (lv' := [(2, .int (iZ (((k / 9 : Nat) : Int)))), (0, .ref h0), (1, .int (iZ (((k : Nat) : Int))))]) hx hb d_Big_addTenTo_4 rfl hl (by decide) rfl (fun ls hl => ?_)
  refine lv_aload_n hx hb d_Big_addTenTo_5 rfl (lv_at hl 1 rfl) ?_
  refine va_get (D := D) (ci := 2) (v := .int (iZ (((n : Nat) : Int)))) (C := R_Big) (T := F_Big) (N := 2) hx hb hts i_Big hown hK hP 0 rfl rfl 1 (by decide) (hts _ kw_23_) (fun _ h9 => h9) rfl d_Big_addTenTo_6 ?_
  refine lv_istore_n (lv' := [(3, .int (iZ (((n : Nat) : Int)))), (2, .int (iZ (((k / 9 : Nat) : Int)))), (0, .ref h0), (1, .int (iZ (((k : Nat) : Int))))]) hx hb d_Big_addTenTo_9 rfl hl (by decide) rfl (fun ls hl => ?_)
  exact lp_Big_addTenTo_10 h0 q0 cA0 f n v k hB hk hvk C0 hA hE (k / 9 + 1 - n + 1) n f _ _ _ (Nat.lt_succ_self _) (by omega) (hB.2.1.1) (hK.sub [0] rfl) (hP.sub [0, 1] rfl) (hD.sub [0, 1] (by decide) rfl) hS (lv_sub hl [2, 3, 1, 0] rfl)
