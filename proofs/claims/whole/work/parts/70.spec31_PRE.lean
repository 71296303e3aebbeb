/-! the law: its start, its script -/
theorem ten_in : ∀ j : Nat, j < 19 → Cond.eq (.elem (.static "FloatWriter" "TENS" "[J") (.int (Int32.ofNat j))) (.long (lN (10 ^ j))) ∈ flatC (Jvm.Cond.and given_1 narrow_1) := by decide +kernel
theorem tx_in : ∀ i : Nat, i < 9 → Cond.exactly (.string "FloatWriter" (txI.getD i 0)) "java/lang/String" ∈ flatC (Jvm.Cond.and given_1 narrow_1) ∧ Cond.eq (.field (.string "FloatWriter" (txI.getD i 0)) "java/lang/String" "coder" "B") (.int 0) ∈ flatC (Jvm.Cond.and given_1 narrow_1) ∧ Cond.arrayOf (.field (.string "FloatWriter" (txI.getD i 0)) "java/lang/String" "value" "[B") .byte ∈ flatC (Jvm.Cond.and given_1 narrow_1) ∧ Cond.eq (.length (.field (.string "FloatWriter" (txI.getD i 0)) "java/lang/String" "value" "[B")) (.int (Int32.ofNat (txL.getD i 0))) ∈ flatC (Jvm.Cond.and given_1 narrow_1) := by decide +kernel
theorem tx_el : ∀ i : Nat, i < 9 → ∀ j : Nat, j < txL.getD i 0 → Cond.eq (.elem (.field (.string "FloatWriter" (txI.getD i 0)) "java/lang/String" "value" "[B") (.int (Int32.ofNat j))) (.int ((txY.getD i []).getD j 0)) ∈ flatC (Jvm.Cond.and given_1 narrow_1) := by decide +kernel
theorem tx_ne : ∀ i : Nat, i < 9 → ∀ j : Nat, j < 9 → i ≠ j → Cond.not (Cond.eq (.string "FloatWriter" (txI.getD i 0)) (.string "FloatWriter" (txI.getD j 0))) ∈ flatC (Jvm.Cond.and given_1 narrow_1) ∨ Cond.not (Cond.eq (.string "FloatWriter" (txI.getD j 0)) (.string "FloatWriter" (txI.getD i 0))) ∈ flatC (Jvm.Cond.and given_1 narrow_1) := by decide +kernel
theorem tx_ref : ∀ i : Nat, i < 9 → Cond.stringRef "FloatWriter" (txI.getD i 0) (txS.getD i "") ∈ lw_tbl := by decide +kernel
theorem nw_in : ∀ w ∈ nwL, w ∈ lw_tbl ∧ w.onTables = true := by decide +kernel
theorem ev_start {s : State} {b : Nat} (hts : ∀ w ∈ lw_tbl, w.before #[Value.ref b] s = true) (hg : (Jvm.Cond.and given_1 narrow_1).before #[Value.ref b] s = true) : ∃ Z : Nat → Nat, Ev Z (fun q => s.heap.size ≤ q) s s.heap := by
  have hs := flat_of_before _ hg
  have hA : ∀ a : Nat, a < s.heap.size → ¬ (s.heap.size ≤ a) := fun a h => Nat.not_le.mpr h
  obtain ⟨t0, e0, hT⟩ := va_Tof (tm := .static "FloatWriter" "TENS" "[J") (ty := .long) (N := 19) (f := fun j => .long (lN (10 ^ j))) (A := fun q => s.heap.size ≤ q) (by decide) (hs _ (by decide +kernel)) (va_eqt (z := Int32.ofNat 19) (hs _ (by decide +kernel))) (fun j hj => va_eqtl (hs _ (ten_in j hj))) hA
  obtain ⟨adK, adV, hS, hev⟩ := vk_Sof (N := 9) (tm := fun i => .string "FloatWriter" (txI.getD i 0)) (len := txL) (byt := txY) (A := fun q => s.heap.size ≤ q) (by decide) (fun i hi => hs _ (tx_in i hi).1) (fun i hi => hs _ (tx_in i hi).2.1) (fun i hi => hs _ (tx_in i hi).2.2.1) (fun i hi => hs _ (tx_in i hi).2.2.2) (fun i hi j hj => hs _ (tx_el i hi j hj)) (fun i j hi hj hne => (tx_ne i hi j hj hne).imp (fun h => hs _ h) (fun h => hs _ h)) hA
  refine ⟨fun n => if n = 0 then t0 else if n % 2 = 1 then adK ((n - 1) / 2) else adV ((n - 2) / 2), ?_⟩
  have eK : ∀ i : Nat, (if 1 + 2 * i = 0 then t0 else if (1 + 2 * i) % 2 = 1 then adK ((1 + 2 * i - 1) / 2) else adV ((1 + 2 * i - 2) / 2)) = adK i := fun i => by
    rw [if_neg (by omega), if_pos (by omega), show (1 + 2 * i - 1) / 2 = i by omega]
  have eV : ∀ i : Nat, (if 2 + 2 * i = 0 then t0 else if (2 + 2 * i) % 2 = 1 then adK ((2 + 2 * i - 1) / 2) else adV ((2 + 2 * i - 2) / 2)) = adV i := fun i => by
    rw [if_neg (by omega), if_neg (by omega), show (2 + 2 * i - 2) / 2 = i by omega]
  refine ⟨⟨va_Zof (hts _ (by decide +kernel)) (hts _ (by decide +kernel)) e0 hA, hT⟩, ⟨vx_Zqof (hts _ (by decide +kernel)) (hts _ (by decide +kernel)) (hs _ (by decide +kernel)) hA, vx_Zqof (hts _ (by decide +kernel)) (hts _ (by decide +kernel)) (hs _ (by decide +kernel)) hA⟩, ⟨va_Zof (hts _ (by decide +kernel)) (hts _ (by decide +kernel)) (va_eqt (hs _ (by decide +kernel))) hA, va_Zqof (hts _ (by decide +kernel)) (hts _ (by decide +kernel)) (hs _ (by decide +kernel)) hA⟩, ?_, fun i hi => ?_, fun w hw => ?_, ?_⟩
  · rw [show (fun i : Nat => (fun n : Nat => if n = 0 then t0 else if n % 2 = 1 then adK ((n - 1) / 2) else adV ((n - 2) / 2)) (1 + 2 * i)) = adK from funext eK, show (fun i : Nat => (fun n : Nat => if n = 0 then t0 else if n % 2 = 1 then adK ((n - 1) / 2) else adV ((n - 2) / 2)) (2 + 2 * i)) = adV from funext eV]
    exact hS
  · show vk_R "FloatWriter" (txI.getD i 0) (txS.getD i "") (if 1 + 2 * i = 0 then t0 else if (1 + 2 * i) % 2 = 1 then adK ((1 + 2 * i - 1) / 2) else adV ((1 + 2 * i - 2) / 2)) s
    rw [eK]
    exact vk_R.of (hts _ (tx_ref i hi)) (hev i hi)
  · exact va_tabs (nw_in w hw).2 rfl (hts _ (nw_in w hw).1)
  · exact va_Nc.of (hs _ (by decide +kernel))
theorem iZ_self (x : Int32) : x = iZ x.toInt := (Int32.ofInt_toInt x).symm
def s64 (z : Int) : Nat := (z % 18446744073709551616).toNat
def u32 (z : Int) : Nat := (z % 4294967296).toNat
def bt (z1 z2 : Int) : Nat := u32 z1 * 2 ^ 32 + u32 z2
def nzB (z : Int) : Bool := decide (¬ z = 0)
theorem u32_lt (z : Int) : u32 z < 4294967296 := by unfold u32; omega
theorem s64_lt (z : Int) : s64 z < 18446744073709551616 := by unfold s64; omega
theorem bt_lt (z1 z2 : Int) : bt z1 z2 < 18446744073709551616 := by
  have := u32_lt z1
  have := u32_lt z2
  unfold bt
  omega
theorem lZ_s64 (z : Int) : lZ z = lN (s64 z) := by
  apply Int64.toBitVec_inj.mp
  apply BitVec.eq_of_toNat_eq
  show (BitVec.ofInt 64 z).toNat = (BitVec.ofNat 64 (s64 z)).toNat
  rw [BitVec.toNat_ofInt, BitVec.toNat_ofNat]
  have := s64_lt z
  unfold s64
  rw [Nat.mod_eq_of_lt (by unfold s64 at this; exact this)]
  rfl
theorem lN_u32 (z : Int) : lN (s64 z * 2 ^ 32) = lN (u32 z * 2 ^ 32) := by
  rw [wb_mod (s64 z * 2 ^ 32), wb_mod (u32 z * 2 ^ 32)]
  have e : s64 z * 2 ^ 32 % 18446744073709551616 = u32 z * 2 ^ 32 % 18446744073709551616 := by
    unfold s64 u32
    omega
  exact congrArg lN e
theorem and_u32 (z : Int) : s64 z &&& 4294967295 = u32 z := by
  rw [show (4294967295 : Nat) = 2 ^ 32 - 1 from rfl, Nat.and_two_pow_sub_one_eq_mod]
  unfold s64 u32
  omega
theorem or_bt (z1 z2 : Int) : (u32 z1 * 2 ^ 32) ||| u32 z2 = bt z1 z2 := by
  have h1 := Nat.two_pow_add_eq_or_of_lt (i := 32) (b := u32 z2) (u32_lt z2) (u32 z1)
  unfold bt
  rw [Nat.mul_comm (u32 z1), ← h1]
theorem and_15 (z : Int) (h : -2147483648 ≤ z ∧ z < 2147483648) : iZ z &&& iZ 15 = iZ (z % 16) := by
  have e : iZ z = iZ ((u32 z : Nat) : Int) := by
    rw [iZ_nat]
    apply Int32.toBitVec_inj.mp
    apply BitVec.eq_of_toNat_eq
    show (BitVec.ofInt 32 z).toNat = (BitVec.ofNat 32 (u32 z)).toNat
    rw [BitVec.toNat_ofInt, BitVec.toNat_ofNat, Nat.mod_eq_of_lt (u32_lt z)]
    rfl
  rw [e, show iZ 15 = iZ ((15 : Nat) : Int) from rfl, iZ_and, show (15 : Nat) = 2 ^ 4 - 1 from rfl, Nat.and_two_pow_sub_one_eq_mod]
  congr 1
  unfold u32
  omega
section NZ
variable {p : Program} {l : Launch} {e : Env} {R : Room} {s : State} {m : MethodId} {args : Array Value} {below : List Frame} {meth : Method} {c : Code} {H : Heap} {locs : List Loc} {cells slots : Nat} {Q : State → Prop}
variable {cc : ByteArray} {pc : Nat} {ls : Array Slot} {rest : List Value}
theorem nz_row (hx : p.tables.exec = Jvm.exec) (hb : c.code = cc) {z : Int} {q : Nat} (d1 : decode cc pc = .ok (.ifCond .eq 7, 3)) (d2 : decode cc (pc + 3) = .ok (.iconst 1, 1)) (d3 : decode cc (pc + 4) = .ok (.goto 4, 3)) (d4 : decode cc (pc + 7) = .ok (.iconst 0, 1)) (hq : q = pc + 8) (hz : -2147483648 ≤ z ∧ z < 2147483648)
    (kk : W p l e R s m args below meth c H locs cells slots Q (F0 m q ls (.int (bZ (nzB z = true)) :: rest))) : W p l e R s m args below meth c H locs cells slots Q (F0 m pc ls (.int (iZ z) :: rest)) := by
  subst hq
  refine zv_if_eq (tgt := pc + 7) hx hb d1 (by omega) hz (fun h => ?_) (fun h => ?_)
  · refine lv_iconst (v := iZ 0) hx hb d4 rfl ?_
    refine zv_top (y := bZ (nzB z = true)) (bZ_f (by unfold nzB; simp; exact h)).symm kk
  · refine lv_iconst (v := iZ 1) hx hb d2 rfl ?_
    refine lv_goto (tgt := pc + 8) hx hb d3 (by omega) ?_
    refine zv_top (y := bZ (nzB z = true)) (bZ_t (by unfold nzB; simp; exact h)).symm kk
end NZ
theorem sx_at {sx : Nat → Int32} {zz : Nat → Int} {z : Int} {n k : Nat} (hz : z = (n : Int)) (hn : n < 2147483648) (h : sx n = iZ (zz k)) : sx (iZ z).toNatClampNeg = iZ (zz k) := by rw [iZ_cn hz hn]; exact h
section LC
variable {p : Program} {l : Launch} {e : Env} {R : Room} {s : State} {m : MethodId} {args : Array Value} {below : List Frame} {meth : Method} {c : Code} {H : Heap} {locs : List Loc} {cells slots : Nat} {Q : State → Prop}
variable {cc : ByteArray} {pc : Nat} {ls : Array Slot} {rest : List Value}
theorem lc_eq (hx : p.tables.exec = Jvm.exec) (hb : c.code = cc) {a : Nat} {off : Int} {tgt : Nat} (hd0 : decode cc pc = .ok (.lcmp, 1)) (hd : decode cc (pc + 1) = .ok (.ifCond .eq off, 3)) (ht : ((pc + 1 : Nat) : Int) + off = (tgt : Int))
    (kt : W p l e R s m args below meth c H locs cells slots Q (F0 m tgt ls rest)) : W p l e R s m args below meth c H locs cells slots Q (F0 m pc ls (.long (lN a) :: .long (lN a) :: rest)) :=
  W.lcmp hx hb hd0 (lv_if_eq hx hb hd ht (fun _ => kt) (fun q => absurd ((lg_cmp_eq _ _).mpr rfl) q))
end LC
theorem ei63 {t : List Nat} (h : ∀ x ∈ t, x < 128) {i : Int} : eiT t i 8 < 9223372036854775808 := by
  rw [show eiT t i 8 = eiT t i 7 + (if 0 ≤ i + ((7 : Nat) : Int) ∧ i + ((7 : Nat) : Int) < (t.length : Int) then t.getD (i + ((7 : Nat) : Int)).toNat 0 else 0) * 2 ^ (8 * 7) from rfl]
  have h1 := eiT_lt h i 7
  have h2 : (if 0 ≤ i + ((7 : Nat) : Int) ∧ i + ((7 : Nat) : Int) < (t.length : Int) then t.getD (i + ((7 : Nat) : Int)).toNat 0 else 0) ≤ 127 := by
    split
    · have := getD_lt h (i + ((7 : Nat) : Int)).toNat; omega
    · omega
  have h3 := Nat.mul_le_mul_right (2 ^ (8 * 7)) h2
  have e : (2 : Nat) ^ (8 * 7) = 72057594037927936 := rfl
  omega
theorem dg63 {b : Nat} {nw : Bool} (hf : fSz b nw < fI nw) : dgD b nw < 9223372036854775808 := by
  unfold dgD
  by_cases q : fM b nw = 0
  · rw [if_pos q]; decide
  · rw [if_neg q]
    have := (shD_in hf q).1.2
    omega
