/-! the reference: fixed, scientific -/
def mW (b : Nat) (nw : Bool) : Nat := fM b nw * uN (fW b nw)
theorem mW_lt {b : Nat} {nw : Bool} (h : fSz b nw < fI nw) : mW b nw < 10 ^ 1402 := by
  have h1 : uN (fW b nw) ≤ bigO * 2 ^ 971 := Nat.le_trans (Nat.div_le_self _ _) (Nat.mul_le_mul_left _ (Nat.pow_le_pow_right (by decide) (by have := (fW_fin h).2; omega)))
  have h2 : 9007199254740992 * (bigO * 2 ^ 971) < 10 ^ 1402 := by unfold bigO; decide +kernel
  exact Nat.lt_of_le_of_lt (Nat.mul_le_mul (Nat.le_of_lt (fM_lt b nw)) h1) h2
theorem mW_pos {b : Nat} {nw : Bool} (h : fSz b nw < fI nw) (h0 : ¬ fM b nw = 0) : 0 < mW b nw := Nat.mul_pos (by omega) (Nat.lt_of_lt_of_le (by decide) (uN_ge (z := fW b nw) (by have := (fW_fin h).1; omega)))
theorem room_cut {v k : Nat} (h : v < 10 ^ 1402) (hk : k ≤ 1402) : v + 10 ^ k < 10 ^ 1404 := by
  have h1 : 10 ^ k ≤ 10 ^ 1402 := p10_le hk
  have h2 : (10 : Nat) ^ 1404 = 10 ^ 1402 * 100 := by rw [show (1404 : Nat) = 1402 + 2 from rfl, Nat.pow_add]
  generalize (10 : Nat) ^ 1402 = P at *
  omega
def vrF (b : Nat) (nw : Bool) (pl w : Nat) : Nat := ctN (mW b nw) (1080 - pl) (mrB (mW b nw) (1080 - pl) w)
def fsF (b : Nat) (nw : Bool) (pl w : Nat) : Nat := max (nfig (vrF b nw pl w) - 1) 1080
theorem fs_low {v j : Nat} (hj : j ≤ 1080) (hk : 1080 ≤ j) (hz : v / 10 ^ (j + 1) = 0) : j = max (nfig v - 1) 1080 := by
  have h1 : nfig v ≤ j + 1 := nfig_le (lt_of_div0 (Nat.pow_pos (by decide)) hz)
  omega
theorem fs_top {v j : Nat} (hk : 1080 ≤ j) (hz : v / 10 ^ (j + 1) = 0) (hd : ¬ dt v j = 0) : j = max (nfig v - 1) 1080 := by
  have := top_fig hz hd
  omega
def pnT (pl : Nat) : List Nat := if 0 < pl then [46] else []
theorem pnT_len (pl : Nat) : (pnT pl).length ≤ 1 := by unfold pnT; split <;> decide
def figR (vr : Nat) : Int → List Nat := fgG vr (-1080)
theorem figR_len (vr : Nat) (z : Int) : (figR vr z).length ≤ 1 := Nat.le_refl 1
theorem figR_eq (vr : Nat) (z : Int) : figR vr z = [chr (figAt vr (z + 1080))] := by unfold figR fgG; rw [Int.sub_neg]
def mfxT (b : Nat) (nw : Bool) (pl w : Nat) : List Nat := mgT (fN b nw) ++ dnT (figR (vrF b nw pl w)) ((fsF b nw pl w : Int) - 1080) (fsF b nw pl w - 1080 + 1) ++ pnT pl ++ dnT (figR (vrF b nw pl w)) (-1) pl
def f0F (b : Nat) (nw : Bool) : Nat := if fM b nw = 0 then 1080 else nfig (mW b nw) - 1
def vsF (b : Nat) (nw : Bool) (fg w : Nat) : Nat := ctN (mW b nw) (f0F b nw + 1 - fg) (mrB (mW b nw) (f0F b nw + 1 - fg) w)
def f1F (b : Nat) (nw : Bool) (fg w : Nat) : Nat := if dt (vsF b nw fg w) (f0F b nw + 1) = 1 ∧ ¬ fM b nw = 0 then f0F b nw + 1 else f0F b nw
def figS (vr fg : Nat) (hi z : Int) : List Nat := [chr (figAt vr (z + 1080))] ++ (if z = hi ∧ 1 < fg then [46] else [])
theorem figS_len (vr fg : Nat) (hi z : Int) : (figS vr fg hi z).length ≤ 2 := by unfold figS; split <;> simp
theorem f0F_le {b : Nat} {nw : Bool} (h : fSz b nw < fI nw) : f0F b nw ≤ 1401 := by
  have := nfig_le (mW_lt h)
  unfold f0F
  split <;> omega
theorem f1F_le {b : Nat} {nw : Bool} (h : fSz b nw < fI nw) (fg w : Nat) : f1F b nw fg w ≤ 1402 := by
  have := f0F_le h
  unfold f1F
  split <;> omega
def msiT (b : Nat) (nw : Bool) (fg w : Nat) : List Nat := mgT (fN b nw) ++ dnT (figS (vsF b nw fg w) fg ((f1F b nw fg w : Int) - 1080)) ((f1F b nw fg w : Int) - 1080) fg ++ e2T ((f1F b nw fg w : Int) - 1080)
theorem dnS_len (vr fg : Nat) (hi : Int) (j : Nat) : (dnT (figS vr fg hi) hi j).length ≤ j + 1 := by
  induction j with
  | zero => exact Nat.zero_le 1
  | succ j ih =>
    rw [dnT, List.length_append]
    unfold figS at *
    by_cases q : j = 0
    · subst q
      rw [dnT]
      have := figS_len vr fg hi (hi - ((0 : Nat) : Int))
      unfold figS at this
      show 0 + _ ≤ _
      omega
    · rw [if_neg (by omega)]
      show _ + 1 ≤ _
      omega
/-! which call is refused, and how -/
def okN (b : Nat) (nw : Bool) : Bool := nw && decide (b < 4294967296)
theorem okN_ok {b : Nat} {nw : Bool} : okN b nw = true → b < 4294967296 := by
  unfold okN
  intro h
  rw [Bool.and_eq_true] at h
  exact of_decide_eq_true h.2
theorem okN_eq {b : Nat} {nw : Bool} (h : nw = true → b < 4294967296) : okN b nw = nw := by
  unfold okN
  cases nw
  · rfl
  · rw [decide_eq_true (h rfl)]; rfl
def wrB (b : Nat) (nw : Bool) : Prop := nw = true ∧ ¬ b < 4294967296
def th3 (b : Nat) (nw : Bool) : Int := if nw = true ∧ ¬ b < 4294967296 then 1 else if fE b (okN b nw) < fMo (okN b nw) then 0 else 2
def th4 (b : Nat) (nw : Bool) (z1 z2 lo hi : Int) : Int := if (nw = true ∧ ¬ b < 4294967296) ∨ z1 < lo ∨ hi < z1 ∨ z2 < 0 ∨ 3 < z2 then 1 else if fE b (okN b nw) < fMo (okN b nw) then 0 else 2
theorem th4_in (b : Nat) (nw : Bool) (z1 z2 lo hi : Int) : 0 ≤ th4 b nw z1 z2 lo hi ∧ th4 b nw z1 z2 lo hi ≤ 2 := by unfold th4; split; omega; split <;> omega
theorem th3_in (b : Nat) (nw : Bool) : 0 ≤ th3 b nw ∧ th3 b nw ≤ 2 := by unfold th3; split; omega; split <;> omega
theorem th4_0 {b : Nat} {nw : Bool} {z1 z2 lo hi : Int} (h1 : ¬ (nw = true ∧ ¬ b < 4294967296)) (h2 : ¬ (z1 < lo ∨ hi < z1 ∨ z2 < 0 ∨ 3 < z2)) (h3 : fE b (okN b nw) < fMo (okN b nw)) : th4 b nw z1 z2 lo hi = 0 := by
  unfold th4
  rw [if_neg (fun q => q.elim h1 h2), if_pos h3]
theorem th4_2 {b : Nat} {nw : Bool} {z1 z2 lo hi : Int} (h1 : ¬ (nw = true ∧ ¬ b < 4294967296)) (h2 : ¬ (z1 < lo ∨ hi < z1 ∨ z2 < 0 ∨ 3 < z2)) (h3 : ¬ fE b (okN b nw) < fMo (okN b nw)) : th4 b nw z1 z2 lo hi = 2 := by
  unfold th4
  rw [if_neg (fun q => q.elim h1 h2), if_neg h3]
