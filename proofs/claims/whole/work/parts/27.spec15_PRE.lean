noncomputable def fiT (b : Nat) (nw : Bool) (pl w : Nat) : List Nat := sgT b nw ++ fxT (sV b nw) (exC b nw) pl w
noncomputable def siT (b : Nat) (nw : Bool) (fg w : Nat) : List Nat := sgT b nw ++ scT (sV b nw) (exC b nw) fg w
noncomputable def dgD (b : Nat) (nw : Bool) : Nat := if fM b nw = 0 then 0 else (shD b nw).1
noncomputable def pwD (b : Nat) (nw : Bool) : Int := if fM b nw = 0 then 0 else (shD b nw).2
theorem hTE_le {v t : Nat} : hTE v t ≤ v / 2 ^ t + 1 := by unfold hTE; split <;> omega
theorem nSz_lt {x : Nat} (h : x ≤ 9218868437227405312) : nSz x < 2147483648 := by
  unfold nSz
  split
  · decide
  · split
    · omega
    · rename_i q2
      have h1 := fM_lt x false
      have h2 := hTE_le (v := fM x false) (t := min (926 - fE x false) 60)
      have h3 : 2 ^ 30 ≤ 2 ^ (min (926 - fE x false) 60) := Nat.pow_le_pow_right (by decide) (by omega)
      have h4 : fM x false / 2 ^ (min (926 - fE x false) 60) ≤ fM x false / 2 ^ 30 := Nat.div_le_div_left h3 (by decide)
      have h5 : (2 : Nat) ^ 30 = 1073741824 := rfl
      omega
theorem nar_or {x y : Nat} (h : y ≤ 9218868437227405312) : (if x = 1 then fS true else 0) ||| nSz y = (if x = 1 then fS true else 0) + nSz y := by
  split
  · have h1 := Nat.two_pow_add_eq_or_of_lt (i := 31) (b := nSz y) (nSz_lt h) 1
    rw [Nat.mul_one] at h1
    exact h1.symm
  · rw [Nat.zero_or, Nat.zero_add]
theorem wSz_lt {x : Nat} (h : x ≤ 2139095040) : wSz x < 9223372036854775808 := by
  unfold wSz
  split
  · decide
  · split
    · omega
    · split
      · decide
      · rename_i q1 q2 q3
        have h1 := fF_lt (x * 2 ^ (52 - Nat.log2 x)) false
        have h2 : (2 : Nat) ^ fP false = 4503599627370496 := rfl
        have h3 := wid_small h (by omega)
        have h4 : Nat.log2 x < 23 := (Nat.log2_lt (by omega)).mpr h3
        have h5 : (Nat.log2 x + 874) * 2 ^ 52 ≤ 896 * 2 ^ 52 := Nat.mul_le_mul_right _ (by omega)
        have h6 : (896 : Nat) * 2 ^ 52 = 4035225266123964416 := rfl
        omega
theorem wid_or2 {x y : Nat} (h : y ≤ 2139095040) : (if x = 1 then fS false else 0) ||| wSz y = (if x = 1 then fS false else 0) + wSz y := by
  split
  · have h1 := Nat.two_pow_add_eq_or_of_lt (i := 63) (b := wSz y) (wSz_lt h) 1
    rw [Nat.mul_one] at h1
    exact h1.symm
  · rw [Nat.zero_or, Nat.zero_add]
