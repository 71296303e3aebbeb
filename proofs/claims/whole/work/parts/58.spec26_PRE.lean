section ZX
variable {p : Program} {l : Launch} {e : Env} {R : Room} {s : State} {m : MethodId} {args : Array Value} {below : List Frame} {meth : Method} {c : Code} {H : Heap} {locs : List Loc} {cells slots : Nat} {Q : State → Prop}
variable {cc : ByteArray} {pc : Nat} {ls : Array Slot} {rest : List Value}
theorem bv_icmp_eq (hx : p.tables.exec = Jvm.exec) (hb : c.code = cc) {P P2 : Prop} [Decidable P] [Decidable P2] {off : Int} {tgt : Nat} (hd : decode cc pc = .ok (.if_icmp .eq off, 3)) (ht : (pc : Int) + off = (tgt : Int))
    (kt : (P ↔ P2) → W p l e R s m args below meth c H locs cells slots Q (F0 m tgt ls rest)) (kf : ¬ (P ↔ P2) → W p l e R s m args below meth c H locs cells slots Q (F0 m (pc + 3) ls rest)) : W p l e R s m args below meth c H locs cells slots Q (F0 m pc ls (.int (bZ P2) :: .int (bZ P) :: rest)) :=
  lv_icmp_eq hx hb hd ht (fun q => kt (bZ_eq.mp q)) (fun q => kf (fun z => q (bZ_eq.mpr z)))
end ZX
/-! the reference: the rest -/
noncomputable def dgM (b : Nat) (nw : Bool) : Nat := if fM b nw = 0 then 0 else (mD b nw).1
noncomputable def pwM (b : Nat) (nw : Bool) : Int := if fM b nw = 0 then 0 else (mD b nw).2 - 1080
theorem th3_0 {b : Nat} {nw : Bool} (h1 : ¬ (nw = true ∧ ¬ b < 4294967296)) (h3 : fE b (okN b nw) < fMo (okN b nw)) : th3 b nw = 0 := by unfold th3; rw [if_neg h1, if_pos h3]
theorem th3_2 {b : Nat} {nw : Bool} (h1 : ¬ (nw = true ∧ ¬ b < 4294967296)) (h3 : ¬ fE b (okN b nw) < fMo (okN b nw)) : th3 b nw = 2 := by unfold th3; rw [if_neg h1, if_neg h3]
theorem sz_parts (b : Nat) (nw : Bool) : fSz b nw = fE b nw * 2 ^ fP nw + fF b nw ∧ fE b nw ≤ fMo nw ∧ fI nw = fMo nw * 2 ^ fP nw := by
  unfold fE fF fSz
  cases nw
  · have e1 : fS false = 9223372036854775808 := rfl
    have e2 : (2 : Nat) ^ fP false = 4503599627370496 := rfl
    have e3 : fMo false = 2047 := rfl
    have e4 : fI false = 9218868437227405312 := rfl
    rw [e1, e2, e3, e4]
    omega
  · have e1 : fS true = 2147483648 := rfl
    have e2 : (2 : Nat) ^ fP true = 8388608 := rfl
    have e3 : fMo true = 255 := rfl
    have e4 : fI true = 2139095040 := rfl
    rw [e1, e2, e3, e4]
    omega
theorem sz_facts (b : Nat) (nw : Bool) : ((fE b nw = 0 ∧ fF b nw = 0) ↔ fSz b nw = 0) ∧ (¬ fE b nw < fMo nw → (fF b nw = 0 ↔ fSz b nw = fI nw) ∧ fI nw ≤ fSz b nw ∧ 0 < fSz b nw) := by
  obtain ⟨h1, h2, h3⟩ := sz_parts b nw
  have hp := fP_pow nw
  have hm : 0 < fMo nw := by cases nw <;> decide
  constructor
  · constructor
    · intro ⟨q1, q2⟩; rw [h1, q1, q2, Nat.zero_mul]
    · intro q
      rw [h1] at q
      have hf : fF b nw = 0 := by omega
      refine ⟨?_, hf⟩
      rcases Nat.eq_zero_or_pos (fE b nw) with z | z
      · exact z
      · have := Nat.mul_pos z (show 0 < 2 ^ fP nw by omega); omega
  · intro q
    have e : fE b nw = fMo nw := by omega
    rw [h1, h3, e]
    have := Nat.mul_pos hm (show 0 < 2 ^ fP nw by omega)
    omega
theorem fN_iff (b : Nat) (nw : Bool) : fN b nw = true ↔ b / fS nw % 2 = 1 := by unfold fN; exact decide_eq_true_iff
/-! narrowed -/
def rnE (m i : Nat) : Nat := if i = 0 then m else hTE m i
theorem rn_up {m i : Nat} (hi : 0 < i) : hTE m i = m / 2 ^ i + (if m / 2 ^ (i - 1) % 2 = 1 ∧ (¬ m % 2 ^ (i - 1) = 0 ∨ m / 2 ^ i % 2 = 1) then 1 else 0) := by
  obtain ⟨j, rfl⟩ : ∃ j, i = j + 1 := ⟨i - 1, by omega⟩
  rw [Nat.add_sub_cancel]
  unfold hTE
  rw [Nat.add_sub_cancel]
  have e1 : m % 2 ^ (j + 1) = m % 2 ^ j + 2 ^ j * (m / 2 ^ j % 2) := by rw [Nat.pow_succ, Nat.mod_mul]
  have hp : 0 < 2 ^ j := Nat.pow_pos (by decide)
  have h1 := Nat.mod_lt m hp
  have h2 := Nat.mod_lt (m / 2 ^ j) (show 0 < 2 by decide)
  rw [e1]
  generalize m % 2 ^ j = r at *
  generalize m / 2 ^ (j + 1) = q at *
  generalize m / 2 ^ j % 2 = y at *
  generalize 2 ^ j = P at *
  rcases (show y = 0 ∨ y = 1 by omega) with z | z
  · subst z
    rw [Nat.mul_zero, if_neg (by omega), if_neg (by omega), Nat.add_zero]
  · subst z
    rw [Nat.mul_one]
    by_cases c1 : r = 0
    · subst c1
      by_cases c2 : q % 2 = 1
      · rw [if_pos (by omega), if_pos (by omega)]
      · rw [if_neg (by omega), if_neg (by omega), Nat.add_zero]
    · rw [if_pos (by omega), if_pos (by omega)]
def sbM (m i : Nat) : Bool := decide (0 < i ∧ ¬ m % 2 ^ (i - 1) = 0)
def lbM (m i : Nat) : Nat := if i = 0 then 0 else m / 2 ^ (i - 1) % 2
theorem sb_next {m i : Nat} : sbM m (i + 1) = true ↔ (sbM m i = true ∨ lbM m i = 1) := by
  unfold sbM lbM
  rw [decide_eq_true_iff, decide_eq_true_iff, Nat.add_sub_cancel]
  cases i with
  | zero => rw [Nat.pow_zero, Nat.mod_one]; simp
  | succ j =>
    rw [Nat.add_sub_cancel, if_neg (by omega)]
    have e1 : m % 2 ^ (j + 1) = m % 2 ^ j + 2 ^ j * (m / 2 ^ j % 2) := by rw [Nat.pow_succ, Nat.mod_mul]
    have hp : 0 < 2 ^ j := Nat.pow_pos (by decide)
    have h2 := Nat.mod_lt (m / 2 ^ j) (show 0 < 2 by decide)
    rw [e1]
    generalize m / 2 ^ j % 2 = y at *
    generalize m % 2 ^ j = r at *
    generalize 2 ^ j = P at *
    rcases (show y = 0 ∨ y = 1 by omega) with z | z
    · subst z; rw [Nat.mul_zero]; omega
    · subst z; rw [Nat.mul_one]; omega
theorem lb_le (m i : Nat) : lbM m i ≤ 1 := by unfold lbM; split <;> omega
theorem nar_eq (e f : Nat) : hTE (e * 4503599627370496 + f) 29 + 8388608 = e * 8388608 + hTE (4503599627370496 + f) 29 := by
  unfold hTE
  rw [show (29 - 1 : Nat) = 28 from rfl, show (2 : Nat) ^ 29 = 536870912 from rfl, show (2 : Nat) ^ 28 = 268435456 from rfl]
  have c1 : (e * 4503599627370496 + f) % 536870912 = f % 536870912 := by omega
  have c2 : (4503599627370496 + f) % 536870912 = f % 536870912 := by omega
  have c3 : (e * 4503599627370496 + f) / 536870912 = e * 8388608 + f / 536870912 := by omega
  have c4 : (4503599627370496 + f) / 536870912 = 8388608 + f / 536870912 := by omega
  rw [c1, c2, c3, c4]
  by_cases d : 268435456 < f % 536870912 ∨ f % 536870912 = 268435456 ∧ f / 536870912 % 2 = 1
  · rw [if_pos (by omega), if_pos (by omega)]; omega
  · rw [if_neg (by omega), if_neg (by omega)]; omega
/-- what the shifting comes to -/
theorem nar_shape {b i : Nat} (hf : fSz b false < fI false) (h1 : fM b false / 2 ^ i < 16777216) (h2 : -149 ≤ fW b false + (i : Int)) (h3 : i = 0 ∨ 16777216 ≤ fM b false / 2 ^ (i - 1) ∨ fW b false + (i : Int) - 1 < -149) :
    0 < i ∧ ((i = 29 ∧ 897 ≤ fE b false ∧ 8388608 ≤ hTE (fM b false) i ∧ hTE (fM b false) i ≤ 16777216 ∧ hTE (fSz b false - 4035225266123964416) 29 + 8388608 = (fE b false - 896) * 8388608 + hTE (fM b false) i) ∨ (fE b false ≤ 896 ∧ fW b false + (i : Int) = -149 ∧ hTE (fM b false) i ≤ 8388608 ∧ hTE (fM b false) (min (926 - fE b false) 60) = hTE (fM b false) i)) := by
  obtain ⟨p1, p2, p3⟩ := sz_parts b false
  have eP : (2 : Nat) ^ fP false = 4503599627370496 := rfl
  have hff := fF_lt b false
  rw [eP] at p1 hff
  have hE := (fin_E hf).1
  have eM : fM b false = (if fE b false = 0 then 0 else 4503599627370496) + fF b false := rfl
  have eW : fW b false = max (fE b false : Int) 1 - 1075 := rfl
  by_cases q : fE b false = 0
  · rw [if_pos q, Nat.zero_add] at eM
    have hi : i = 925 := by
      have a1 : 925 ≤ i := by omega
      rcases h3 with z | z | z
      · omega
      · have : 2 ^ 53 ≤ 2 ^ (i - 1) := Nat.pow_le_pow_right (by decide) (by omega)
        have e53 : (2 : Nat) ^ 53 = 9007199254740992 := rfl
        rw [Nat.div_eq_of_lt (by omega)] at z
        omega
      · omega
    have big : ∀ j, 54 ≤ j → hTE (fM b false) j = 0 := by
      intro j hj
      have b1 : 2 ^ 53 ≤ 2 ^ (j - 1) := Nat.pow_le_pow_right (by decide) (by omega)
      have b2 : 2 ^ 53 ≤ 2 ^ j := Nat.pow_le_pow_right (by decide) (by omega)
      have e53 : (2 : Nat) ^ 53 = 9007199254740992 := rfl
      unfold hTE
      rw [Nat.mod_eq_of_lt (show fM b false < 2 ^ j by omega), Nat.div_eq_of_lt (show fM b false < 2 ^ j by omega), if_neg (by omega)]
    refine ⟨by omega, Or.inr ⟨by omega, by omega, ?_, ?_⟩⟩
    · rw [big i (by omega)]; decide
    · rw [big i (by omega), big _ (by omega)]
  · rw [if_neg q] at eM
    have hM1 : 4503599627370496 ≤ fM b false := by omega
    have hM2 : fM b false < 9007199254740992 := by omega
    have hge : 29 ≤ i := by
      rcases Nat.lt_or_ge i 29 with z | z
      · have : 2 ^ i ≤ 2 ^ 28 := Nat.pow_le_pow_right (by decide) (by omega)
        have e28 : (2 : Nat) ^ 28 = 268435456 := rfl
        have h4 : fM b false / 2 ^ 28 ≤ fM b false / 2 ^ i := Nat.div_le_div_left this (Nat.pow_pos (by decide))
        rw [e28] at h4
        omega
      · exact z
    have hmin : i = 29 ∨ fW b false + (i : Int) = -149 := by
      rcases h3 with z | z | z
      · omega
      · left
        rcases Nat.lt_or_ge 29 i with y | y
        · have : 2 ^ 29 ≤ 2 ^ (i - 1) := Nat.pow_le_pow_right (by decide) (by omega)
          have e29 : (2 : Nat) ^ 29 = 536870912 := rfl
          have h4 : fM b false / 2 ^ (i - 1) ≤ fM b false / 2 ^ 29 := Nat.div_le_div_left this (Nat.pow_pos (by decide))
          rw [e29] at h4
          omega
        · omega
      · right; omega
    refine ⟨by omega, ?_⟩
    rcases Nat.lt_or_ge 896 (fE b false) with y | y
    · left
      have hi : i = 29 := by omega
      subst hi
      have e29 : (2 : Nat) ^ 29 = 536870912 := rfl
      have e28 : (2 : Nat) ^ 28 = 268435456 := rfl
      refine ⟨rfl, by omega, ?_, ?_, ?_⟩
      · unfold hTE; rw [e29]; split <;> omega
      · unfold hTE; rw [e29]; split <;> omega
      · have g1 : fSz b false - 4035225266123964416 = (fE b false - 896) * 4503599627370496 + fF b false := by
          rw [p1]
          have : fE b false * 4503599627370496 = (fE b false - 896) * 4503599627370496 + 896 * 4503599627370496 := by rw [← Nat.add_mul]; congr 1; omega
          omega
        rw [g1, eM]
        exact nar_eq _ _
    · right
      have hw : fW b false + (i : Int) = -149 := by omega
      have hi : i = 926 - fE b false := by omega
      refine ⟨y, hw, ?_, ?_⟩
      · have b1 : 2 ^ 30 ≤ 2 ^ i := Nat.pow_le_pow_right (by decide) (by omega)
        have h4 : fM b false / 2 ^ i ≤ fM b false / 2 ^ 30 := Nat.div_le_div_left b1 (Nat.pow_pos (by decide))
        have e30 : (2 : Nat) ^ 30 = 1073741824 := rfl
        have h5 := hTE_le (v := fM b false) (t := i)
        rw [e30] at h4
        omega
      · rcases Nat.lt_or_ge 60 i with x | x
        · have big : ∀ j, 60 ≤ j → hTE (fM b false) j = 0 := by
            intro j hj
            have b1 : 2 ^ 53 ≤ 2 ^ (j - 1) := Nat.pow_le_pow_right (by decide) (by omega)
            have b2 : 2 ^ 53 ≤ 2 ^ j := Nat.pow_le_pow_right (by decide) (by omega)
            have e53 : (2 : Nat) ^ 53 = 9007199254740992 := rfl
            unfold hTE
            rw [Nat.mod_eq_of_lt (show fM b false < 2 ^ j by omega), Nat.div_eq_of_lt (show fM b false < 2 ^ j by omega), if_neg (by omega)]
          rw [big i (by omega), big _ (by omega)]
        · rw [show min (926 - fE b false) 60 = i by omega]
theorem fE_fSz (b : Nat) (nw : Bool) : fE (fSz b nw) nw = fE b nw ∧ fM (fSz b nw) nw = fM b nw := by
  have h0 : fSz (fSz b nw) nw = fSz b nw := Nat.mod_mod _ _
  have h1 : fE (fSz b nw) nw = fE b nw := by unfold fE; rw [h0]
  have h2 : fF (fSz b nw) nw = fF b nw := by
    unfold fF fSz
    rw [fS_pow]
    exact Nat.mod_mod_of_dvd _ (Nat.pow_dvd_pow 2 (by cases nw <;> decide))
  exact ⟨h1, by unfold fM; rw [h1, h2]⟩
theorem narF_fin {b : Nat} (h : fSz b false < fI false) : narF b = (if b / fS false % 2 = 1 then fS true else 0) + (if 896 < fE b false then min (hTE (fSz b false - 4035225266123964416) 29) 2139095040 else hTE (fM b false) (min (926 - fE b false) 60)) := by
  have e : fI false = 9218868437227405312 := rfl
  unfold narF nSz
  rw [if_neg (show ¬ 9218868437227405312 < fSz b false by omega), if_neg (show ¬ fSz b false = 9218868437227405312 by omega), (fE_fSz b false).1, (fE_fSz b false).2]
theorem narF_inf {b : Nat} (h : fSz b false = fI false) : narF b = (if b / fS false % 2 = 1 then fS true else 0) + 2139095040 := by
  have e : fI false = 9218868437227405312 := rfl
  unfold narF nSz
  rw [if_neg (show ¬ 9218868437227405312 < fSz b false by omega), if_pos (show fSz b false = 9218868437227405312 by omega)]
theorem narF_nan {b : Nat} (h : fI false < fSz b false) : narF b = 2143289344 := by
  have e : fI false = 9218868437227405312 := rfl
  unfold narF
  rw [if_pos (by omega)]
theorem sg_or {x y : Nat} (h : y < 2147483648) : (if x = 1 then fS true else 0) ||| y = (if x = 1 then fS true else 0) + y := by
  split
  · have h1 := Nat.two_pow_add_eq_or_of_lt (i := 31) (b := y) h 1
    rw [Nat.mul_one] at h1
    exact h1.symm
  · rw [Nat.zero_or, Nat.zero_add]
theorem sg_or63 {x y : Nat} (h : y < 9223372036854775808) : (if x = 1 then fS false else 0) ||| y = (if x = 1 then fS false else 0) + y := by
  split
  · have h1 := Nat.two_pow_add_eq_or_of_lt (i := 63) (b := y) h 1
    rw [Nat.mul_one] at h1
    exact h1.symm
  · rw [Nat.zero_or, Nat.zero_add]
/-! widened -/
theorem widF_nan {b : Nat} (h : fI true < fSz b true) : widF b = 9221120237041090560 := by
  have e : fI true = 2139095040 := rfl
  unfold widF; rw [if_pos (by omega)]
theorem widF_inf {b : Nat} (h : fSz b true = fI true) : widF b = (if b / fS true % 2 = 1 then fS false else 0) + 9218868437227405312 := by
  have e : fI true = 2139095040 := rfl
  unfold widF wSz; rw [if_neg (show ¬ 2139095040 < fSz b true by omega), if_pos (show fSz b true = 2139095040 by omega)]
theorem widF_zero {b : Nat} (h : fSz b true = 0) : widF b = (if b / fS true % 2 = 1 then fS false else 0) + 0 := by
  have e1 : fE (fSz b true) true = 0 := by rw [h]; rfl
  unfold widF wSz; rw [e1, h, if_neg (show ¬ 2139095040 < 0 by decide), if_neg (show ¬ (0 : Nat) = 2139095040 by decide), if_neg (show ¬ (0 : Nat) < 0 by decide), if_pos (rfl : (0 : Nat) = 0)]
theorem wid_shape {b i : Nat} (hf : fSz b true < fI true) (h0 : ¬ fM b true = 0) (h1 : 4503599627370496 ≤ fM b true * 2 ^ i) (h2 : fM b true * 2 ^ i < 9007199254740992) :
    ∃ k : Nat, (k : Int) = fW b true - (i : Int) + 1075 ∧ k < 2048 ∧ widF b = (if b / fS true % 2 = 1 then fS false else 0) + (k * 2 ^ 52 + fM b true * 2 ^ i - 4503599627370496) := by
  obtain ⟨p1, p2, p3⟩ := sz_parts b true
  have eP : (2 : Nat) ^ fP true = 8388608 := rfl
  have eI : fI true = 2139095040 := rfl
  have hff := fF_lt b true
  rw [eP] at p1 hff
  have hE := (fin_E hf).2 rfl
  have eM : fM b true = (if fE b true = 0 then 0 else 8388608) + fF b true := rfl
  have eW : fW b true = max (fE b true : Int) 1 - 150 := rfl
  have e52 : (2 : Nat) ^ 52 = 4503599627370496 := rfl
  have hi : Nat.log2 (fM b true) + i = 52 := by
    have hp : 0 < 2 ^ i := Nat.pow_pos (by decide)
    have g1 : 2 ^ Nat.log2 (fM b true) ≤ fM b true := Nat.log2_self_le h0
    have g2 : fM b true < 2 ^ (Nat.log2 (fM b true) + 1) := Nat.lt_log2_self
    have g3 : 2 ^ (Nat.log2 (fM b true) + i) < 2 ^ 53 := by
      rw [Nat.pow_add]
      exact Nat.lt_of_le_of_lt (Nat.mul_le_mul_right _ g1) h2
    have g4 : 2 ^ 52 < 2 ^ (Nat.log2 (fM b true) + 1 + i) := by
      rw [Nat.pow_add]
      exact Nat.lt_of_le_of_lt h1 (Nat.mul_lt_mul_of_pos_right g2 hp)
    have g5 := (Nat.pow_lt_pow_iff_right (a := 2) (by decide)).mp g3
    have g6 := (Nat.pow_lt_pow_iff_right (a := 2) (by decide)).mp g4
    omega
  unfold widF wSz
  rw [if_neg (show ¬ 2139095040 < fSz b true by omega), if_neg (show ¬ fSz b true = 2139095040 by omega), (fE_fSz b true).1]
  by_cases q : fE b true = 0
  · rw [if_pos q, Nat.zero_add] at eM
    have hx : fSz b true = fM b true := by rw [p1, q, Nat.zero_mul, Nat.zero_add, eM]
    have hl : Nat.log2 (fM b true) < 23 := (Nat.log2_lt h0).mpr (by show fM b true < 8388608; omega)
    refine ⟨Nat.log2 (fM b true) + 874, by omega, by omega, ?_⟩
    rw [if_neg (show ¬ 0 < fE b true by omega), if_neg (show ¬ fSz b true = 0 by omega), hx, show 52 - Nat.log2 (fM b true) = i by omega]
    refine congrArg (fun q : Nat => (if b / fS true % 2 = 1 then fS false else 0) + q) ?_
    unfold fF
    rw [show (2 : Nat) ^ fP false = 4503599627370496 from rfl]
    omega
  · rw [if_neg q] at eM
    have hl : Nat.log2 (fM b true) = 23 := log2_at (t := 23) (by show 8388608 ≤ fM b true; omega) (by show fM b true < 16777216; omega)
    have hi2 : i = 29 := by omega
    refine ⟨fE b true + 896, by omega, by omega, ?_⟩
    rw [if_pos (show 0 < fE b true by omega), hi2, p1, e52]
    refine congrArg (fun q : Nat => (if b / fS true % 2 = 1 then fS false else 0) + q) ?_
    have e29 : (2 : Nat) ^ 29 = 536870912 := rfl
    rw [e29, eM]
    omega

theorem nar_val {b x : Nat} (h : fSz b false < fI false) (hx : x < 2147483648) (h1 : 896 < fE b false → x = min (hTE (fSz b false - 4035225266123964416) 29) 2139095040) (h2 : fE b false ≤ 896 → x = hTE (fM b false) (min (926 - fE b false) 60)) : (if b / fS false % 2 = 1 then fS true else 0) ||| x = narF b := by
  rw [narF_fin h, sg_or hx]
  by_cases q : 896 < fE b false
  · rw [if_pos q, ← h1 q]
  · rw [if_neg q, ← h2 (by omega)]
def NarS (b i : Nat) : Prop := (i = 29 ∧ 897 ≤ fE b false ∧ 8388608 ≤ hTE (fM b false) i ∧ hTE (fM b false) i ≤ 16777216 ∧ hTE (fSz b false - 4035225266123964416) 29 + 8388608 = (fE b false - 896) * 8388608 + hTE (fM b false) i) ∨ (fE b false ≤ 896 ∧ fW b false + (i : Int) = -149 ∧ hTE (fM b false) i ≤ 8388608 ∧ hTE (fM b false) (min (926 - fE b false) 60) = hTE (fM b false) i)
theorem nar_end {b i x : Nat} (hf : fSz b false < fI false) (hs : NarS b i) (h : (∃ q : Int, q = fW b false + (i : Int) + (if hTE (fM b false) i = 16777216 then 1 else 0) ∧ (104 < q → x = 2139095040) ∧ (¬ 104 < q → hTE (fM b false) i < 8388608 → x = hTE (fM b false) i) ∧ (¬ 104 < q → ¬ hTE (fM b false) i < 8388608 → (x : Int) = (q + 150) * 8388608 + (if hTE (fM b false) i = 16777216 then 8388608 else ((hTE (fM b false) i : Nat) : Int)) - 8388608))) : (if b / fS false % 2 = 1 then fS true else 0) ||| x = narF b ∧ x < 2147483648 := by
  obtain ⟨q, hq, h1, h2, h3⟩ := h
  have eW : fW b false = max (fE b false : Int) 1 - 1075 := rfl
  have hE := (fin_E hf).1
  rcases hs with ⟨a1, a2, a3, a4, a5⟩ | ⟨a1, a2, a3, a4⟩
  · subst a1
    have hyx : x = min (hTE (fSz b false - 4035225266123964416) 29) 2139095040 := by
      generalize hTE (fM b false) 29 = m at hq h1 h2 h3 a3 a4 a5
      generalize hTE (fSz b false - 4035225266123964416) 29 = y at a5 ⊢
      by_cases c1 : 104 < q
      · have := h1 c1
        by_cases c2 : m = 16777216
        · rw [if_pos c2] at hq; omega
        · rw [if_neg c2] at hq; omega
      · have h4 := h3 c1 (by omega)
        by_cases c2 : m = 16777216
        · rw [if_pos c2] at hq h4; omega
        · rw [if_neg c2] at hq h4; omega
    have hl : x < 2147483648 := by rw [hyx]; exact Nat.lt_of_le_of_lt (Nat.min_le_right _ _) (by decide)
    refine ⟨?_, hl⟩
    exact nar_val hf hl (fun _ => hyx) (fun z => absurd z (by omega))
  · have c2 : ¬ hTE (fM b false) i = 16777216 := by omega
    rw [if_neg c2] at hq h3
    have hx : x = hTE (fM b false) i := by
      generalize hTE (fM b false) i = m at h1 h2 h3 a3 c2
      by_cases c3 : m < 8388608
      · exact h2 (by omega) c3
      · have := h3 (by omega) c3; omega
    have hl : x < 2147483648 := by rw [hx]; exact Nat.lt_of_le_of_lt a3 (by decide)
    refine ⟨?_, hl⟩
    rw [narF_fin hf, sg_or hl, if_neg (show ¬ 896 < fE b false by omega), a4, hx]
theorem nx_b {b : Nat} {nw up : Bool} (hs : (fF b nw = 0 ↔ fSz b nw = fI nw) ∧ fI nw ≤ fSz b nw ∧ 0 < fSz b nw) (hn : fN b nw = true ↔ b / fS nw % 2 = 1) (h : ¬ fF b nw = 0 ∨ ¬ (fN b nw = true ↔ up = true)) : b = nxtF b nw up := by
  unfold nxtF
  by_cases q : fF b nw = 0
  · rw [if_neg (by omega), if_neg (by omega), if_neg (fun z => (h.resolve_left (fun y => y q)) (hn.trans z)), if_pos (hs.1.mp q)]
  · rw [if_pos (by omega)]
theorem nx_0 {b : Nat} {nw up : Bool} {r : Nat} (h : fSz b nw = 0) (hu : (up = true ∧ r = 1) ∨ (¬ up = true ∧ r = fS nw + 1)) : r = nxtF b nw up := by
  unfold nxtF
  rw [if_neg (by omega), if_pos h]
  rcases hu with ⟨q, e⟩ | ⟨q, e⟩
  · rw [if_pos q, e]
  · rw [if_neg q, e]
theorem nx_m {b : Nat} {nw up : Bool} (h : fSz b nw < fI nw ∨ (fSz b nw = fI nw ∧ (fN b nw = true ↔ up = true))) (h0 : ¬ fSz b nw = 0) (hn : fN b nw = true ↔ b / fS nw % 2 = 1) (hu : fN b nw = true ↔ up = true) : b - 1 = nxtF b nw up := by
  unfold nxtF
  rw [if_neg (by omega), if_neg h0, if_pos (hn.symm.trans hu)]
theorem nx_p {b : Nat} {nw up : Bool} (h : fSz b nw < fI nw ∨ (fSz b nw = fI nw ∧ (fN b nw = true ↔ up = true))) (h0 : ¬ fSz b nw = 0) (hn : fN b nw = true ↔ b / fS nw % 2 = 1) (hu : ¬ (fN b nw = true ↔ up = true)) : b + 1 = nxtF b nw up := by
  unfold nxtF
  rw [if_neg (by omega), if_neg h0, if_neg (fun z => hu (hn.trans z))]
  rcases h with q | q
  · rw [if_neg (by omega)]
  · exact absurd q.2 hu
theorem nar_i {m i : Nat} {w : Int} (hm : m < 9007199254740992) (h : 16777216 ≤ m / 2 ^ i ∨ w + (i : Int) < -149) (hw : -1074 ≤ w) : i < 930 := by
  rcases h with q | q
  · rcases Nat.lt_or_ge i 930 with z | z
    · exact z
    · have : 2 ^ 53 ≤ 2 ^ i := Nat.pow_le_pow_right (by decide) (by omega)
      have e : (2 : Nat) ^ 53 = 9007199254740992 := rfl
      rw [Nat.div_eq_of_lt (by omega)] at q
      omega
  · omega
theorem nar_up {m i : Nat} (hi : 0 < i) (h1 : lbM m i = 1) (h2 : sbM m i = true ∨ m / 2 ^ i % 2 = 1) : m / 2 ^ i + 1 = hTE m i := by
  rw [rn_up hi]
  unfold lbM at h1
  rw [if_neg (by omega)] at h1
  unfold sbM at h2
  rw [decide_eq_true_iff] at h2
  rw [if_pos ⟨h1, h2.imp (fun q => q.2) id⟩]
theorem nar_dn {m i : Nat} (hi : 0 < i) (h : ¬ lbM m i = 1 ∨ (¬ sbM m i = true ∧ ¬ m / 2 ^ i % 2 = 1)) : m / 2 ^ i = hTE m i := by
  rw [rn_up hi]
  unfold lbM sbM at h
  rw [if_neg (by omega), decide_eq_true_iff] at h
  rw [if_neg, Nat.add_zero]
  rintro ⟨q1, q2⟩
  rcases h with z | z
  · exact z q1
  · rcases q2 with y | y
    · exact z.1 ⟨hi, y⟩
    · exact z.2 y
theorem wid_lt2 {m i : Nat} (hm : m < 9007199254740992) (h : i = 0 ∨ m * 2 ^ (i - 1) < 4503599627370496) : m * 2 ^ i < 9007199254740992 := by
  rcases h with q | q
  · rw [q, Nat.pow_zero, Nat.mul_one]; exact hm
  · cases i with
    | zero => rw [Nat.pow_zero, Nat.mul_one]; exact hm
    | succ j =>
      rw [Nat.add_sub_cancel] at q
      rw [Nat.pow_succ, ← Nat.mul_assoc]
      omega
theorem wid_i {m i : Nat} (hm : ¬ m = 0) (h : m * 2 ^ i < 4503599627370496) : i < 52 := by
  rcases Nat.lt_or_ge i 52 with z | z
  · exact z
  · have h1 : 2 ^ 52 ≤ 2 ^ i := Nat.pow_le_pow_right (by decide) z
    have h2 : 1 * 2 ^ i ≤ m * 2 ^ i := Nat.mul_le_mul_right _ (by omega)
    have e : (2 : Nat) ^ 52 = 4503599627370496 := rfl
    omega
theorem wid_z {b : Nat} (h : fM b true = 0) : fSz b true = 0 := by
  have h1 : fM b true = (if fE b true = 0 then 0 else 8388608) + fF b true := rfl
  rw [h] at h1
  have h2 := (sz_facts b true).1
  by_cases q : fE b true = 0
  · rw [if_pos q] at h1; exact h2.mp ⟨q, by omega⟩
  · rw [if_neg q] at h1; omega
