/-! the reference: rows that it wants, its arrays -/
section ZW
variable {p : Program} {l : Launch} {e : Env} {R : Room} {s : State} {m : MethodId} {args : Array Value} {below : List Frame} {meth : Method} {c : Code} {H : Heap} {locs : List Loc} {cells slots : Nat} {Q : State → Prop}
variable {cc : ByteArray} {pc : Nat} {ls : Array Slot} {rest : List Value}
theorem lN_sshr {a k : Nat} (ha : a < 9223372036854775808) (hk : k < 64) : lN a >>> ((nI k).toInt64 &&& 63) = lN (a / 2 ^ k) := by
  rw [wb_c k hk]
  have hd : a / 2 ^ k ≤ a := Nat.div_le_self _ _
  apply Int64.toInt_inj.mp
  have hD : ((lN k).toBitVec.smod 64).toNat = k := by
    show ((BitVec.ofNat 64 k).smod 64).toNat = k
    rw [wb_sm k hk, BitVec.toNat_ofNat, Nat.mod_eq_of_lt (by omega)]
  have e : (lN a >>> lN k).toInt = (lN a).toInt >>> k := by
    have h : (lN a >>> lN k).toInt = (lN a).toInt >>> ((lN k).toBitVec.smod 64).toNat := BitVec.toInt_sshiftRight ..
    rw [hD] at h
    exact h
  have q1 : (lN a).toInt = (a : Int) := lg_ofNat_toInt (by omega)
  have q2 : (lN (a / 2 ^ k)).toInt = ((a / 2 ^ k : Nat) : Int) := lg_ofNat_toInt (by omega)
  rw [e, Int.shiftRight_eq_div_pow, q1, q2]
  rfl
theorem nv_lshr (hx : p.tables.exec = Jvm.exec) (hb : c.code = cc) {a k : Nat} {z : Int} (hd : decode cc pc = .ok (.lshr, 1)) (hz : z = (k : Int)) (ha : a < 9223372036854775808) (hk : k < 64)
    (kk : W p l e R s m args below meth c H locs cells slots Q (F0 m (pc + 1) ls (.long (lN (a / 2 ^ k)) :: rest))) : W p l e R s m args below meth c H locs cells slots Q (F0 m pc ls (.int (iZ z) :: .long (lN a) :: rest)) :=
  lv_lshr hx hb hd (by rw [hz, iZ_nat]; exact lN_sshr ha hk) kk
theorem iZ_and (a b : Nat) : iZ ((a : Nat) : Int) &&& iZ ((b : Nat) : Int) = iZ ((a &&& b : Nat) : Int) := by
  rw [iZ_nat, iZ_nat, iZ_nat]
  apply Int32.toBitVec_inj.mp
  show BitVec.ofNat 32 a &&& BitVec.ofNat 32 b = BitVec.ofNat 32 (a &&& b)
  exact (BitVec.ofNat_and ..).symm
theorem zv_iand (hx : p.tables.exec = Jvm.exec) (hb : c.code = cc) {a b : Nat} {y z : Int} (hd : decode cc pc = .ok (.iand, 1)) (h1 : y = ((a : Nat) : Int)) (h2 : z = ((b : Nat) : Int))
    (kk : W p l e R s m args below meth c H locs cells slots Q (F0 m (pc + 1) ls (.int (iZ ((a &&& b : Nat) : Int)) :: rest))) : W p l e R s m args below meth c H locs cells slots Q (F0 m pc ls (.int (iZ z) :: .int (iZ y) :: rest)) := by
  refine lv_iand hx hb hd ?_
  rw [h1, h2, iZ_and]
  exact kk
theorem zv_nmn {n : Nat} (k : ∀ v : Nat, v = n → W p l e R s m args below meth c H locs cells slots Q (F0 m pc ls (.int (iZ ((v : Nat) : Int)) :: rest))) : W p l e R s m args below meth c H locs cells slots Q (F0 m pc ls (.int (iZ ((n : Nat) : Int)) :: rest)) := k n rfl
end ZW
def dt (v j : Nat) : Nat := v / 10 ^ j % 10
theorem dt_lt (v j : Nat) : dt v j < 10 := Nat.mod_lt _ (by decide)
def LimI (f : Nat → Int32) (v : Nat) : Prop := (∀ i, i < 156 → f i = iZ ((dg v i : Nat) : Int)) ∧ v < 1000000000 ^ 156
def DigI (f : Nat → Int32) (v : Nat) : Prop := (∀ j, j < 1404 → f j = iZ ((dt v j : Nat) : Int)) ∧ v < 10 ^ 1404
theorem pB_156 : (1000000000 : Nat) ^ 156 = 10 ^ 1404 := by rw [show (1000000000 : Nat) = 10 ^ 9 from rfl, ← Nat.pow_mul]
def bigO : Nat := 1000000000 ^ 120
def uN (z : Int) : Nat := bigO * 2 ^ z.toNat / 2 ^ (-z).toNat
theorem dg_bigO (j : Nat) : dg bigO j = if j = 120 then 1 else 0 := by
  unfold dg bigO
  rcases Nat.lt_trichotomy j 120 with q | q | q
  · rw [if_neg (by omega), Nat.pow_div (by omega) (by decide), show 120 - j = (119 - j) + 1 by omega, Nat.pow_succ, Nat.mul_mod_left]
  · rw [if_pos q, q, Nat.div_self (Nat.pow_pos (by decide))]
  · rw [if_neg (by omega), Nat.div_eq_of_lt (Nat.pow_lt_pow_right (by decide) q)]
theorem upd_ext {g : Nat → Int32} {P : Nat → Prop} {F : Nat → Int32} {i : Nat} {x : Int32} (hx : x = F i) (h : ∀ j, P j → j ≠ i → g j = F j) : ∀ j, (P j ∨ j = i) → upd g i x j = F j := by
  intro j hj
  by_cases q : j = i
  · subst q; rw [pk_us]; exact hx
  · rw [pk_un q]; exact h j (hj.resolve_right q) q
theorem upd_up {g : Nat → Int32} {F : Nat → Int32} {k : Nat} {x : Int32} (h : ∀ j, j < k → g j = F j) (hx : x = F k) : ∀ j, j < k + 1 → upd g k x j = F j := by
  intro j hj
  by_cases q : j = k
  · subst q; rw [pk_us]; exact hx
  · rw [pk_un q]; exact h j (by omega)
theorem upd_keep {g : Nat → Int32} {F : Nat → Int32} {k : Nat} {x : Int32} {P : Nat → Prop} (h : ∀ j, k ≤ j → P j → g j = F j) : ∀ j, k + 1 ≤ j → P j → upd g k x j = F j := by
  intro j hj hp
  rw [pk_un (by omega)]; exact h j (by omega) hp
/-- doubling, a limb at a time -/
theorem dbl_step (u k : Nat) : (2 * dg u k + 2 * (u % 1000000000 ^ k) / 1000000000 ^ k) / 1000000000 = 2 * (u % 1000000000 ^ (k + 1)) / 1000000000 ^ (k + 1) ∧ (2 * dg u k + 2 * (u % 1000000000 ^ k) / 1000000000 ^ k) % 1000000000 = dg (2 * u) k := by
  have hp := pB_pos k
  have e1 : 2 * (u % 1000000000 ^ (k + 1)) / 1000000000 ^ k = 2 * dg u k + 2 * (u % 1000000000 ^ k) / 1000000000 ^ k := by
    rw [mod_pB_succ, Nat.mul_add, Nat.mul_left_comm, Nat.add_mul_div_left _ _ hp, Nat.add_comm]
  constructor
  · rw [← e1, Nat.div_div_eq_div_mul, ← Nat.pow_succ]
  · rw [← e1]
    unfold dg
    have e2 : 2 * u = 2 * (u % 1000000000 ^ (k + 1)) + 1000000000 ^ (k + 1) * (2 * (u / 1000000000 ^ (k + 1))) := by
      have := Nat.div_add_mod u (1000000000 ^ (k + 1))
      generalize 1000000000 ^ (k + 1) = P at *
      have e3 : P * (2 * (u / P)) = 2 * (P * (u / P)) := Nat.mul_left_comm ..
      omega
    rw [e2, Nat.pow_succ, Nat.mul_assoc, Nat.add_mul_div_left _ _ hp, Nat.add_mul_mod_self_left, ← Nat.pow_succ]
theorem dbl_c (u k : Nat) : 2 * (u % 1000000000 ^ k) / 1000000000 ^ k < 2 := by
  rw [Nat.div_lt_iff_lt_mul (pB_pos k)]
  have := Nat.mod_lt u (pB_pos k)
  omega
/-- halving, a limb at a time, from the top -/
theorem hlv_step (u k : Nat) : (dg u k + (u / 1000000000 ^ (k + 1) % 2) * 1000000000) / 2 = dg (u / 2) k ∧ (dg u k + (u / 1000000000 ^ (k + 1) % 2) * 1000000000) % 2 = u / 1000000000 ^ k % 2 := by
  unfold dg
  rw [Nat.pow_succ, ← Nat.div_div_eq_div_mul, Nat.div_div_eq_div_mul u 2, Nat.mul_comm 2, ← Nat.div_div_eq_div_mul u _ 2]
  generalize u / 1000000000 ^ k = x
  omega
/-- one row of the product, a limb at a time -/
theorem row_step {L U by' at' k X : Nat} (hk : at' ≤ k) (hX : X = L % 1000000000 ^ k + by' * (U % 1000000000 ^ (k - at')) * 1000000000 ^ at') :
    (X / 1000000000 ^ k + by' * dg U (k - at') + dg L k) / 1000000000 = (L % 1000000000 ^ (k + 1) + by' * (U % 1000000000 ^ (k + 1 - at')) * 1000000000 ^ at') / 1000000000 ^ (k + 1) ∧
    (X / 1000000000 ^ k + by' * dg U (k - at') + dg L k) % 1000000000 = dg (L + by' * U * 1000000000 ^ at') k := by
  have hp := pB_pos k
  have eK : 1000000000 ^ k = 1000000000 ^ (k - at') * 1000000000 ^ at' := by rw [← Nat.pow_add]; congr 1; omega
  have e1 : L % 1000000000 ^ (k + 1) + by' * (U % 1000000000 ^ (k + 1 - at')) * 1000000000 ^ at' = X + 1000000000 ^ k * (by' * dg U (k - at') + dg L k) := by
    rw [mod_pB_succ, show k + 1 - at' = (k - at') + 1 by omega, mod_pB_succ, hX, Nat.mul_add, Nat.add_mul, Nat.mul_add]
    have e2 : by' * (1000000000 ^ (k - at') * dg U (k - at')) * 1000000000 ^ at' = 1000000000 ^ k * (by' * dg U (k - at')) := by
      rw [eK]
      simp only [Nat.mul_assoc, Nat.mul_comm, Nat.mul_left_comm]
    rw [e2]; omega
  have e3 : (L % 1000000000 ^ (k + 1) + by' * (U % 1000000000 ^ (k + 1 - at')) * 1000000000 ^ at') / 1000000000 ^ k = X / 1000000000 ^ k + by' * dg U (k - at') + dg L k := by
    rw [e1, Nat.add_mul_div_left _ _ hp, Nat.add_assoc]
  constructor
  · rw [← e3, Nat.div_div_eq_div_mul, ← Nat.pow_succ]
  · rw [← e3]
    have hL := Nat.div_add_mod L (1000000000 ^ (k + 1))
    have hU := Nat.div_add_mod U (1000000000 ^ (k + 1 - at'))
    have eK1 : 1000000000 ^ (k + 1) = 1000000000 ^ (k + 1 - at') * 1000000000 ^ at' := by rw [← Nat.pow_add]; congr 1; omega
    have e4 : L + by' * U * 1000000000 ^ at' = (L % 1000000000 ^ (k + 1) + by' * (U % 1000000000 ^ (k + 1 - at')) * 1000000000 ^ at') + 1000000000 ^ k * (1000000000 * (L / 1000000000 ^ (k + 1) + by' * (U / 1000000000 ^ (k + 1 - at')))) := by
      have e5 : by' * U * 1000000000 ^ at' = by' * (1000000000 ^ (k + 1 - at') * (U / 1000000000 ^ (k + 1 - at')) + U % 1000000000 ^ (k + 1 - at')) * 1000000000 ^ at' := by rw [hU]
      have e6 : by' * (1000000000 ^ (k + 1 - at') * (U / 1000000000 ^ (k + 1 - at'))) * 1000000000 ^ at' = 1000000000 ^ k * (1000000000 * (by' * (U / 1000000000 ^ (k + 1 - at')))) := by
        rw [← Nat.mul_assoc (1000000000 ^ k), ← Nat.pow_succ, eK1]
        simp only [Nat.mul_assoc, Nat.mul_comm, Nat.mul_left_comm]
      have e7 : 1000000000 ^ k * (1000000000 * (L / 1000000000 ^ (k + 1))) = 1000000000 ^ (k + 1) * (L / 1000000000 ^ (k + 1)) := by rw [← Nat.mul_assoc, ← Nat.pow_succ]
      rw [e5, Nat.mul_add, Nat.add_mul, e6, Nat.mul_add, Nat.mul_add, e7]
      omega
    unfold dg
    rw [e4, Nat.add_mul_div_left _ _ hp, Nat.add_mul_mod_self_left]
theorem row_c {L U by' at' k : Nat} (hk : at' ≤ k) (hb : by' < 1000000000) : (L % 1000000000 ^ k + by' * (U % 1000000000 ^ (k - at')) * 1000000000 ^ at') / 1000000000 ^ k ≤ 1000000000 := by
  have hp := pB_pos k
  have h1 := Nat.mod_lt L hp
  have h2 := Nat.mod_lt U (pB_pos (k - at'))
  have eK : 1000000000 ^ k = 1000000000 ^ (k - at') * 1000000000 ^ at' := by rw [← Nat.pow_add]; congr 1; omega
  have h3 : by' * (U % 1000000000 ^ (k - at')) * 1000000000 ^ at' ≤ 999999999 * 1000000000 ^ k := by
    rw [eK, ← Nat.mul_assoc]
    exact Nat.mul_le_mul_right _ (Nat.mul_le_mul (by omega) (Nat.le_of_lt h2))
  apply Nat.le_of_lt_succ
  rw [Nat.div_lt_iff_lt_mul hp]
  generalize 1000000000 ^ k = P at *
  omega
theorem dt_limb {v k i : Nat} (h : i < 9) : dg v k / 10 ^ i % 10 = dt v (9 * k + i) := by
  have := fig_limb v (9 * k + i)
  rw [show (9 * k + i) / 9 = k by omega, show (9 * k + i) % 9 = i by omega] at this
  exact this
theorem uN_lt {z : Int} (h : z ≤ 971) {k : Nat} (hk : k ≤ 36028797018963970) : k * uN z < 1000000000 ^ 156 := by
  have h1 : uN z ≤ bigO * 2 ^ 971 := Nat.le_trans (Nat.div_le_self _ _) (Nat.mul_le_mul_left _ (Nat.pow_le_pow_right (by decide) (by omega)))
  refine Nat.lt_of_le_of_lt (Nat.mul_le_mul hk h1) ?_
  unfold bigO
  decide +kernel
theorem bigO_lt : bigO < 1000000000 ^ 156 := Nat.pow_lt_pow_right (by decide) (by decide)
theorem lim_dbl {i : Nat} {z : Int} (h : z ≤ 971) (hi : i ≤ z.toNat) : bigO * 2 ^ i < 1000000000 ^ 156 := by
  refine Nat.lt_of_le_of_lt (Nat.mul_le_mul_left _ (Nat.pow_le_pow_right (by decide) (show i ≤ 971 by omega))) ?_
  unfold bigO
  decide +kernel
theorem lim_hlv {i : Nat} {z : Int} (h : z ≤ 971) : bigO * 2 ^ z.toNat / 2 ^ i < 1000000000 ^ 156 := Nat.lt_of_le_of_lt (Nat.div_le_self _ _) (lim_dbl h (Nat.le_refl _))
theorem cy01 {x : Nat} (h : x < 2000000000) : (if 1000000000 ≤ x then 1 else 0) = x / 1000000000 := by split <;> omega
def fN (b : Nat) (nw : Bool) : Bool := decide (b / fS nw % 2 = 1)
def fMo (nw : Bool) : Nat := if nw = true then 255 else 2047
theorem open_exp {b : Nat} {nw : Bool} (hok : nw = true → b < 4294967296) (hb : b < 18446744073709551616) : (b / 2 ^ fP nw) &&& fMo nw = fE b nw := by
  unfold fE fSz
  cases nw
  · have e1 : fMo false = 2 ^ 11 - 1 := rfl
    have e2 : fS false = 9223372036854775808 := rfl
    have e3 : (2 : Nat) ^ fP false = 4503599627370496 := rfl
    rw [e1, Nat.and_two_pow_sub_one_eq_mod, e2, e3]
    omega
  · have e1 : fMo true = 2 ^ 8 - 1 := rfl
    have e2 : fS true = 2147483648 := rfl
    have e3 : (2 : Nat) ^ fP true = 8388608 := rfl
    have := hok rfl
    rw [e1, Nat.and_two_pow_sub_one_eq_mod, e2, e3]
    omega
theorem upd_dn {g : Nat → Int32} {F : Nat → Int32} {j : Nat} (h : ∀ q, 156 - j ≤ q → q < 156 → g q = F q) (hj : j < 156) : ∀ q, 156 - (j + 1) ≤ q → q < 156 → upd g (155 - j) (F (155 - j)) q = F q := by
  intro q h1 h2
  by_cases e : q = 155 - j
  · subst e; rw [pk_us]
  · rw [pk_un e]; exact h q (by omega) h2
