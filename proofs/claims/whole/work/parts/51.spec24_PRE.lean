/-! the reference's answers, told by the bits -/
theorem fin_iff (b : Nat) (nw : Bool) : fE b nw < fMo nw ↔ fSz b nw < fI nw := by
  unfold fE
  rw [Nat.div_lt_iff_lt_mul (Nat.pow_pos (by decide))]
  cases nw
  · have e1 : fMo false * 2 ^ fP false = 9218868437227405312 := rfl
    have e2 : fI false = 9218868437227405312 := rfl
    rw [e1, e2]
  · have e1 : fMo true * 2 ^ fP true = 2139095040 := rfl
    have e2 : fI true = 2139095040 := rfl
    rw [e1, e2]
theorem fMo_lt (nw : Bool) : fMo nw ≤ 2047 := by cases nw <;> decide
def mV (b : Nat) (nw : Bool) : Nat := 4 * fM b nw * uN (fW b nw - 2)
def mL (b : Nat) (nw : Bool) : Nat := (4 * fM b nw - lkM (fE b nw) (fF b nw)) * uN (fW b nw - 2)
def mH (b : Nat) (nw : Bool) : Nat := (4 * fM b nw + 2) * uN (fW b nw - 2)
theorem mD_ex (b : Nat) (nw : Bool) : ∃ x : Nat × Int, x = msD (4 * fM b nw * uN (fW b nw - 2)) ((4 * fM b nw - lkM (fE b nw) (fF b nw)) * uN (fW b nw - 2)) ((4 * fM b nw + 2) * uN (fW b nw - 2)) (decide (fF b nw % 2 = 0)) := ⟨_, rfl⟩
noncomputable def mD (b : Nat) (nw : Bool) : Nat × Int := Classical.choose (mD_ex b nw)
theorem mD_eq (b : Nat) (nw : Bool) : mD b nw = msD (4 * fM b nw * uN (fW b nw - 2)) ((4 * fM b nw - lkM (fE b nw) (fF b nw)) * uN (fW b nw - 2)) ((4 * fM b nw + 2) * uN (fW b nw - 2)) (decide (fF b nw % 2 = 0)) := Classical.choose_spec (mD_ex b nw)
theorem mD_in {b : Nat} {nw : Bool} (hf : fSz b nw < fI nw) (h : ¬ fM b nw = 0) : (0 < (mD b nw).1 ∧ (mD b nw).1 < 1000000000000000000) ∧ (0 ≤ (mD b nw).2 ∧ (mD b nw).2 ≤ 1421) ∧ (1 ≤ nfig (mD b nw).1 ∧ nfig (mD b nw).1 ≤ 18) ∧ ¬ (mD b nw).1 % 10 = 0 := by
  have hw := fW_fin hf
  have hm := fM_lt b nw
  rw [mD_eq]
  unfold msD
  generalize hv : 4 * fM b nw * uN (fW b nw - 2) = v
  generalize (4 * fM b nw - lkM (fE b nw) (fF b nw)) * uN (fW b nw - 2) = vl
  generalize (4 * fM b nw + 2) * uN (fW b nw - 2) = vh
  generalize decide (fF b nw % 2 = 0) = ev
  have h1 : 17 ≤ nfig v := by rw [← hv]; exact moV_fig hw (by omega)
  have h2 : 0 < v := by rw [← hv]; exact moV_pos hw (by omega)
  have h3 : v < 10 ^ 1403 := by rw [← hv]; exact moV_lt hw.2 hm
  obtain ⟨q1, q2, -⟩ := c0N_in (vl := vl) (vh := vh) (ev := ev) h1 h2
  have hl : lpN v vl vh ev ≤ 1403 := Nat.le_trans (Nat.sub_le _ _) (nfig_le h3)
  obtain ⟨i, a1, a2, a3, a4, a5⟩ := drZ_spec 18 (c0N v vl vh ev) ((lpN v vl vh ev : Nat) : Int) q1
  have a6 := a5 (by show c0N v vl vh ev < 10000000000000000000; omega)
  rw [a2]
  generalize (drZ 18 (c0N v vl vh ev) ((lpN v vl vh ev : Nat) : Int)).1 = x at *
  have hx : x < 1000000000000000000 := by
    have hp : 0 < 10 ^ i := Nat.pow_pos (by decide)
    have : x * 1 ≤ x * 10 ^ i := Nat.mul_le_mul_left _ hp
    omega
  obtain ⟨d, e1, e2, e3⟩ := nfig_pos a4
  exact ⟨⟨a4, hx⟩, ⟨by omega, by omega⟩, ⟨by omega, nfig_le (n := 18) hx⟩, a6⟩
noncomputable def tnM (b : Nat) (nw : Bool) : Int := (mD b nw).2 - 1080
noncomputable def fpM (b : Nat) (nw : Bool) : Int := (mD b nw).2 - 1080 + ((nfig (mD b nw).1 : Nat) : Int) - 1
def plM (b : Nat) (nw : Bool) : Bool := decide (((nfig (mV b nw) : Nat) : Int) - 1 < 7 + 1080) && decide (¬ ((nfig (mV b nw) : Nat) : Int) - 1 < -3 + 1080)
noncomputable def bgM (b : Nat) (nw : Bool) : Int := if plM b nw = true then max (fpM b nw) 0 else fpM b nw
noncomputable def onM (b : Nat) (nw : Bool) : Int := if plM b nw = true then 0 else fpM b nw
noncomputable def edM (b : Nat) (nw : Bool) : Int := min (tnM b nw) (onM b nw - 1)
noncomputable def n1M (b : Nat) (nw : Bool) : Nat := (bgM b nw - onM b nw + 1).toNat
noncomputable def n2M (b : Nat) (nw : Bool) : Nat := (onM b nw - 1 - edM b nw + 1).toNat
noncomputable def figM (b : Nat) (nw : Bool) : Int → List Nat := fgG (mD b nw).1 (tnM b nw)
theorem figM_len (b : Nat) (nw : Bool) (z : Int) : (figM b nw z).length ≤ 1 := Nat.le_refl 1
noncomputable def mprT (b : Nat) (nw : Bool) : List Nat := if fE b nw < fMo nw then
    (if fM b nw = 0 then mgT (fN b nw) ++ [48] ++ [46] ++ [48]
     else mgT (fN b nw) ++ dnT (figM b nw) (bgM b nw) (n1M b nw) ++ [46] ++ dnT (figM b nw) (onM b nw - 1) (n2M b nw) ++ (if plM b nw = true then [] else [69] ++ numT (fpM b nw)))
  else nmT (fN b nw) (fF b nw)
theorem nM_in {b : Nat} {nw : Bool} (hf : fSz b nw < fI nw) (h : ¬ fM b nw = 0) : (-1080 ≤ fpM b nw ∧ fpM b nw ≤ 400) ∧ (-1080 ≤ tnM b nw ∧ tnM b nw ≤ 341) ∧ (-1080 ≤ bgM b nw ∧ bgM b nw ≤ 400) ∧ (-1080 ≤ onM b nw ∧ onM b nw ≤ 400) ∧ (-1081 ≤ edM b nw ∧ edM b nw ≤ 400) ∧ n1M b nw ≤ 401 ∧ n2M b nw ≤ 1100 ∧ onM b nw ≤ bgM b nw ∧ edM b nw ≤ onM b nw - 1 := by
  obtain ⟨h1, h2, h3, -⟩ := mD_in hf h
  have a1 : -1080 ≤ fpM b nw ∧ fpM b nw ≤ 400 ∧ fpM b nw - tnM b nw ≤ 17 := by unfold fpM tnM; omega
  have a2 : -1080 ≤ tnM b nw ∧ tnM b nw ≤ 341 := by unfold tnM; omega
  have a3 : (-1080 ≤ bgM b nw ∧ bgM b nw ≤ 400) ∧ (-1080 ≤ onM b nw ∧ onM b nw ≤ 400) ∧ bgM b nw - onM b nw + 1 ≤ 401 ∧ onM b nw - tnM b nw ≤ 1080 ∧ onM b nw ≤ bgM b nw := by
    unfold bgM onM
    split <;> omega
  have a4 : (-1081 ≤ edM b nw ∧ edM b nw ≤ 400) ∧ edM b nw ≤ onM b nw - 1 ∧ onM b nw - edM b nw ≤ 1081 := by unfold edM; omega
  have a5 : n1M b nw ≤ 401 := by unfold n1M; omega
  have a6 : n2M b nw ≤ 1100 := by unfold n2M; omega
  exact ⟨⟨a1.1, a1.2.1⟩, a2, a3.1, a3.2.1, a4.1, a5, a6, a3.2.2.2.2, a4.2.1⟩
/-- hexadecimal figures as the reference writes them -/
def mhF (f : Nat) : Nat → List Nat
  | 0 => [chr (hxd f 0)]
  | i + 1 => [chr (hxd f (i + 1))] ++ (if f % 2 ^ (4 * (i + 1)) = 0 then [] else mhF f i)
def mhR (f : Nat) : Nat → List Nat
  | 0 => []
  | i + 1 => if f % 2 ^ (4 * (i + 1)) = 0 then [] else mhF f i
theorem mhF_eq (f i : Nat) : mhF f i = [chr (hxd f i)] ++ mhR f i := by cases i <;> rfl
theorem mhR_0 {f i : Nat} (h : f % 2 ^ (4 * i) = 0) : mhR f i = [] := by
  cases i with
  | zero => rfl
  | succ i => rw [mhR, if_pos h]
theorem mhR_s {f i : Nat} (h : ¬ f % 2 ^ (4 * i) = 0) : 0 < i ∧ mhR f i = mhF f (i - 1) := by
  cases i with
  | zero => exact absurd (Nat.mod_one f) h
  | succ i => exact ⟨by omega, by rw [mhR, if_neg h]; rfl⟩
theorem mhF_len (f i : Nat) : (mhF f i).length ≤ i + 1 := by
  induction i with
  | zero => exact Nat.le_refl 1
  | succ i ih =>
    rw [mhF, List.length_append]
    split
    · show 1 + 0 ≤ _; omega
    · show 1 + _ ≤ _; omega
def hfM (b : Nat) (nw : Bool) : Nat := if nw = true then 2 * fF b nw else fF b nw
def hiM (nw : Bool) : Nat := if nw = true then 5 else 12
def hpM (b : Nat) (nw : Bool) : Int := if fM b nw = 0 then 0 else fW b nw + ((fP nw : Nat) : Int)
def mhdT (b : Nat) (nw : Bool) : List Nat := if fE b nw < fMo nw then
    mgT (fN b nw) ++ [48] ++ [120] ++ [if 0 < fE b nw then 49 else 48] ++ [46] ++ mhF (hfM b nw) (hiM nw) ++ [112] ++ numT (hpM b nw)
  else nmT (fN b nw) (fF b nw)
theorem hfM_lt (b : Nat) (nw : Bool) : hfM b nw < 9007199254740992 := by
  have h1 := fF_lt b nw
  unfold hfM
  cases nw
  · have e : (2 : Nat) ^ fP false = 4503599627370496 := rfl
    rw [if_neg (by decide)]; omega
  · have e : (2 : Nat) ^ fP true = 8388608 := rfl
    rw [if_pos rfl]; omega
