theorem p10_le {i j : Nat} (h : i ≤ j) : 10 ^ i ≤ 10 ^ j := Nat.pow_le_pow_right (by decide) h
/-! the parts of a number, by its bits b and its format nw (narrow) -/
def fP (nw : Bool) : Nat := if nw = true then 23 else 52
def fI (nw : Bool) : Nat := if nw = true then 2139095040 else 9218868437227405312
def fS (nw : Bool) : Nat := if nw = true then 2147483648 else 9223372036854775808
def fSh (nw : Bool) : Nat := if nw = true then 31 else 63
def fB (nw : Bool) : Int := if nw = true then 150 else 1075
def fSz (b : Nat) (nw : Bool) : Nat := b % fS nw
def fE (b : Nat) (nw : Bool) : Nat := fSz b nw / 2 ^ fP nw
def fF (b : Nat) (nw : Bool) : Nat := b % 2 ^ fP nw
def fM (b : Nat) (nw : Bool) : Nat := (if fE b nw = 0 then 0 else 2 ^ fP nw) + fF b nw
def fW (b : Nat) (nw : Bool) : Int := max (fE b nw : Int) 1 - fB nw
theorem fS_pow (nw : Bool) : fS nw = 2 ^ fSh nw := by cases nw <;> decide
theorem fS_pos (nw : Bool) : 0 < fS nw := by cases nw <;> decide
theorem fS_lt (nw : Bool) : fS nw ≤ 9223372036854775808 := by cases nw <;> decide
theorem fI_lt (nw : Bool) : fI nw < 9223372036854775808 := by cases nw <;> decide
theorem fP_cases (nw : Bool) : fP nw = 23 ∨ fP nw = 52 := by cases nw <;> simp [fP]
theorem fP_pow (nw : Bool) : 2 ^ fP nw ≤ 4503599627370496 ∧ 8388608 ≤ 2 ^ fP nw := by cases nw <;> decide
theorem fSz_lt (b : Nat) (nw : Bool) : fSz b nw < 9223372036854775808 := Nat.lt_of_lt_of_le (Nat.mod_lt _ (fS_pos nw)) (fS_lt nw)
theorem fE_lt (b : Nat) (nw : Bool) : fE b nw < 2048 := by
  unfold fE
  have h := Nat.mod_lt b (fS_pos nw)
  rw [Nat.div_lt_iff_lt_mul (Nat.pow_pos (by decide))]
  unfold fSz
  cases nw
  · show b % fS false < 2048 * 2 ^ 52
    have : fS false = 9223372036854775808 := rfl
    omega
  · show b % fS true < 2048 * 2 ^ 23
    have : fS true = 2147483648 := rfl
    omega
theorem fF_lt (b : Nat) (nw : Bool) : fF b nw < 2 ^ fP nw := Nat.mod_lt _ (Nat.pow_pos (by decide))
theorem fM_lt (b : Nat) (nw : Bool) : fM b nw < 9007199254740992 := by
  have h1 := fF_lt b nw
  have h2 := fP_pow nw
  unfold fM
  split <;> omega
theorem fW_in (b : Nat) (nw : Bool) : -1074 ≤ fW b nw ∧ fW b nw ≤ 1897 := by
  have h := fE_lt b nw
  unfold fW fB
  split <;> omega
theorem and_fS (b : Nat) (nw : Bool) : b &&& fS nw = fS nw * (b / fS nw % 2) := by
  rw [fS_pow]
  generalize fSh nw = k
  apply Nat.eq_of_testBit_eq
  intro i
  rw [Nat.testBit_and, Nat.testBit_two_pow]
  have h2 := Nat.mod_lt (b / 2 ^ k) (show 0 < 2 by decide)
  have hb : b.testBit k = decide (b / 2 ^ k % 2 = 1) := by rw [Nat.testBit_eq_decide_div_mod_eq]
  rcases (show b / 2 ^ k % 2 = 0 ∨ b / 2 ^ k % 2 = 1 by omega) with q | q
  · rw [q, Nat.mul_zero, Nat.zero_testBit]
    by_cases hk : k = i
    · subst hk; rw [hb, q]; simp
    · simp [hk]
  · rw [q, Nat.mul_one, Nat.testBit_two_pow]
    by_cases hk : k = i
    · subst hk; rw [hb, q]; simp
    · simp [hk]
theorem and_fS1 (b : Nat) (nw : Bool) : b &&& (fS nw - 1) = fSz b nw := by
  unfold fSz
  rw [fS_pow, Nat.and_two_pow_sub_one_eq_mod]
theorem fM_or0 {b : Nat} {nw : Bool} (h : fE b nw = 0) : lN (0 ||| fF b nw) = lN (fM b nw) := by
  unfold fM
  rw [if_pos h, Nat.zero_or, Nat.zero_add]
theorem fM_or1 {b : Nat} {nw : Bool} (h : ¬ fE b nw = 0) : lN ((1 * 2 ^ fP nw) ||| fF b nw) = lN (fM b nw) := by
  unfold fM
  rw [if_neg h, Nat.one_mul]
  have h1 := Nat.two_pow_add_eq_or_of_lt (i := fP nw) (b := fF b nw) (fF_lt b nw) 1
  rw [Nat.mul_one] at h1
  rw [h1]
/-! big whole numbers, nine figures to a limb -/
def dg (v i : Nat) : Nat := v / 1000000000 ^ i % 1000000000
def LimbsIs (f : Nat → Int64) (n v : Nat) : Prop := (∀ i, i < n → f i = lN (dg v i)) ∧ v < 1000000000 ^ n
def BigIs (f : Nat → Int64) (n v : Nat) : Prop := n ≤ 124 ∧ LimbsIs f n v ∧ (n = 0 ∨ 1000000000 ^ (n - 1) ≤ v)
theorem dg_lt (v i : Nat) : dg v i < 1000000000 := Nat.mod_lt _ (by decide)
theorem pB_pos (i : Nat) : 0 < 1000000000 ^ i := Nat.pow_pos (by decide)
theorem dg_big {v i : Nat} (h : v < 1000000000 ^ i) : dg v i = 0 := by
  unfold dg
  rw [Nat.div_eq_of_lt h]
theorem pB_mono {a b : Nat} (h : a ≤ b) : 1000000000 ^ a ≤ 1000000000 ^ b := Nat.pow_le_pow_right (by decide) h
theorem pB_lt {a b v : Nat} (h1 : 1000000000 ^ a ≤ v) (h2 : v < 1000000000 ^ b) : a < b := by
  rcases Nat.lt_or_ge a b with q | q
  · exact q
  · exact absurd (Nat.lt_of_lt_of_le h2 (Nat.le_trans (pB_mono q) h1)) (Nat.lt_irrefl _)
theorem mod_pB_succ (v i : Nat) : v % 1000000000 ^ (i + 1) = v % 1000000000 ^ i + 1000000000 ^ i * dg v i := by
  rw [Nat.pow_succ, Nat.mod_mul]
  rfl
/-- one limb of a product: what goes out, what is carried -/
theorem mul_step {v F i bl ca sm : Nat} (h : ca + bl * (F / 1000000000) = (v % 1000000000 ^ i) * F / 1000000000 ^ i) (hs : sm = dg v i * (F % 1000000000) + bl * (F / 1000000000) + ca) :
    sm % 1000000000 = dg (v * F) i ∧ sm / 1000000000 + dg v i * (F / 1000000000) = (v % 1000000000 ^ (i + 1)) * F / 1000000000 ^ (i + 1) := by
  have hp := pB_pos i
  have hF := Nat.div_add_mod F 1000000000
  have hV := Nat.div_add_mod ((v % 1000000000 ^ i) * F) (1000000000 ^ i)
  have hr := Nat.mod_lt ((v % 1000000000 ^ i) * F) hp
  have hq := Nat.div_add_mod v (1000000000 ^ (i + 1))
  have hm := mod_pB_succ v i
  have hps : 1000000000 ^ (i + 1) = 1000000000 ^ i * 1000000000 := Nat.pow_succ ..
  rw [← h] at hV
  unfold dg at hs hm ⊢
  generalize v / 1000000000 ^ i % 1000000000 = d at *
  generalize F / 1000000000 = fh at *
  generalize F % 1000000000 = fl at *
  generalize hVV : v % 1000000000 ^ i = V at *
  generalize V * F % 1000000000 ^ i = r at *
  generalize v / 1000000000 ^ (i + 1) = t at *
  generalize v % 1000000000 ^ (i + 1) = V1 at *
  rw [hps] at hq ⊢
  generalize 1000000000 ^ i = P at *
  have key : V1 * F = r + P * (sm + d * fh * 1000000000) := by
    rw [hm, Nat.add_mul, ← hV, ← hF, hs]
    simp only [Nat.mul_add, Nat.add_mul]
    have e1 : P * d * (1000000000 * fh) = P * (d * fh * 1000000000) := by
      rw [Nat.mul_assoc, Nat.mul_comm 1000000000 fh, Nat.mul_assoc]
    have e2 : P * d * fl = P * (d * fl) := Nat.mul_assoc ..
    rw [e1, e2]
    omega
  have kd : V1 * F / P = sm + d * fh * 1000000000 := by
    rw [key, Nat.add_mul_div_left _ _ hp, Nat.div_eq_of_lt hr, Nat.zero_add]
  constructor
  · have e : v * F = V1 * F + P * (1000000000 * (t * F)) := by
      rw [← hq, Nat.add_mul, Nat.add_comm]
      congr 1
      rw [Nat.mul_assoc, Nat.mul_assoc]
    rw [e, Nat.add_mul_div_left _ _ hp, kd]
    omega
  · rw [← Nat.div_div_eq_div_mul, kd]
    omega
theorem limbs_up {f g : Nat → Int64} {n i v : Nat} {x : Nat} (h1 : ∀ j, j < i → g j = lN (dg v j)) (hx : x = dg v i) : ∀ j, j < i + 1 → vp_updL g i (lN x) j = lN (dg v j) := by
  intro j hj
  by_cases q : j = i
  · subst q; rw [pk_uLs, hx]
  · rw [pk_uLn q]; exact h1 j (by omega)
theorem limbs_keep {f g : Nat → Int64} {i : Nat} {x : Int64} {P : Nat → Prop} (h1 : ∀ j, i ≤ j → P j → g j = f j) : ∀ j, i + 1 ≤ j → P j → vp_updL g i x j = f j := fun j hj hp => by
  rw [pk_uLn (by omega)]
  exact h1 j (by omega) hp
theorem sm_lt {d fl bl fh ca : Nat} (h1 : d < 1000000000) (h2 : fl < 1000000000) (h3 : bl < 1000000000) (h4 : fh ≤ 1000000000) (h5 : ca < 2000000000) : d * fl + bl * fh + ca < 2000000000000000000 := by
  have a1 : d * fl ≤ 999999999 * 999999999 := Nat.mul_le_mul (by omega) (by omega)
  have a2 : bl * fh ≤ 999999999 * 1000000000 := Nat.mul_le_mul (by omega) h4
  omega
theorem big_end {g : Nat → Int64} {n w : Nat} (h1 : ∀ j, j < n → g j = lN (dg w j)) (h2 : w / 1000000000 ^ n = 0) (h3 : n = 0 ∨ 1000000000 ^ (n - 1) ≤ w) (h4 : w < 1000000000 ^ 124) : BigIs g n w := by
  refine ⟨?_, ⟨h1, ?_⟩, h3⟩
  · rcases h3 with q | q
    · omega
    · have := pB_lt q h4; omega
  · have hp := pB_pos n
    rcases Nat.lt_or_ge w (1000000000 ^ n) with q | q
    · exact q
    · exact absurd h2 (Nat.ne_of_gt (Nat.div_pos q hp))
/-- how many figures; 0 has none -/
def nfigF : Nat → Nat → Nat
  | 0, _ => 0
  | k + 1, v => if v = 0 then 0 else nfigF k (v / 10) + 1
def nfig (v : Nat) : Nat := nfigF v v
theorem nfigF_of : ∀ (k v d : Nat), v ≤ k → 10 ^ d ≤ v → v < 10 ^ (d + 1) → nfigF k v = d + 1 := by
  intro k
  induction k with
  | zero => intro v d h1 h2 h3; have := Nat.pow_pos (n := d) (show 0 < 10 by decide); omega
  | succ k ih =>
    intro v d h1 h2 h3
    have hp := Nat.pow_pos (n := d) (show 0 < 10 by decide)
    rw [nfigF, if_neg (by omega)]
    cases d with
    | zero =>
      have : v / 10 = 0 := by omega
      rw [this]
      cases k <;> simp [nfigF]
    | succ d =>
      rw [ih (v / 10) d (by omega) (by rw [Nat.pow_succ] at h2; omega) (by rw [Nat.pow_succ] at h3; omega)]
theorem nfig_of {v d : Nat} (h2 : 10 ^ d ≤ v) (h3 : v < 10 ^ (d + 1)) : nfig v = d + 1 := nfigF_of v v d (Nat.le_refl v) h2 h3
theorem nfig_0 : nfig 0 = 0 := rfl
def figAt (v : Nat) (z : Int) : Nat := if z < 0 then 0 else v / 10 ^ z.toNat % 10
theorem figAt_lt (v : Nat) (z : Int) : figAt v z < 10 := by unfold figAt; split; decide; exact Nat.mod_lt _ (by decide)
theorem p9 (q r : Nat) : 10 ^ (9 * q + r) = 1000000000 ^ q * 10 ^ r := by
  rw [Nat.pow_add, Nat.pow_mul]
theorem ten_split {r : Nat} (h : r ≤ 9) : 1000000000 = 10 ^ r * 10 ^ (9 - r) := by
  rw [← Nat.pow_add, show r + (9 - r) = 9 by omega]
theorem fig_limb (v p : Nat) : dg v (p / 9) / 10 ^ (p % 9) % 10 = v / 10 ^ p % 10 := by
  have e : 10 ^ p = 1000000000 ^ (p / 9) * 10 ^ (p % 9) := by rw [← p9]; congr 1; omega
  unfold dg
  rw [e, ← Nat.div_div_eq_div_mul]
  generalize v / 1000000000 ^ (p / 9) = x
  have h : p % 9 < 9 := Nat.mod_lt _ (by decide)
  have e2 : 1000000000 = 10 ^ (p % 9) * 10 ^ (9 - p % 9) := ten_split (by omega)
  have e3 : 10 ^ (9 - p % 9) = 10 * 10 ^ (8 - p % 9) := by rw [Nat.mul_comm, ← Nat.pow_succ]; congr 1; omega
  rw [e2, Nat.mod_mul_right_div_self, e3, Nat.mod_mul_right_mod]
theorem low_limb (v p : Nat) : v % 10 ^ p = v % 1000000000 ^ (p / 9) + 1000000000 ^ (p / 9) * (dg v (p / 9) % 10 ^ (p % 9)) := by
  have e : 10 ^ p = 1000000000 ^ (p / 9) * 10 ^ (p % 9) := by rw [← p9]; congr 1; omega
  rw [e, Nat.mod_mul]
  unfold dg
  have h : p % 9 < 9 := Nat.mod_lt _ (by decide)
  have e2 : 1000000000 = 10 ^ (p % 9) * 10 ^ (9 - p % 9) := ten_split (by omega)
  congr 2
  rw [e2, Nat.mod_mul_right_mod, ← e2]
theorem dg_succ (v s k : Nat) : dg v (s + k) = v / 1000000000 ^ s / 1000000000 ^ k % 1000000000 := by
  unfold dg
  rw [Nat.pow_add, Nat.div_div_eq_div_mul]
theorem from_limb {v p : Nat} (h : v / 10 ^ p < 9223372036854775808) : v / 10 ^ p = dg v (p / 9) / 10 ^ (p % 9) + dg v (p / 9 + 1) * 10 ^ (9 - p % 9) + dg v (p / 9 + 2) * 10 ^ (18 - p % 9) := by
  have e : 10 ^ p = 1000000000 ^ (p / 9) * 10 ^ (p % 9) := by rw [← p9]; congr 1; omega
  have hr : p % 9 < 9 := Nat.mod_lt _ (by decide)
  rw [dg_succ, dg_succ]
  unfold dg
  rw [e, ← Nat.div_div_eq_div_mul] at h ⊢
  generalize v / 1000000000 ^ (p / 9) = x at *
  generalize p % 9 = r at *
  rw [Nat.pow_one]
  have hp : 0 < 10 ^ r := Nat.pow_pos (by decide)
  have hx : x < 1000000000 * 1000000000 * 1000000000 := by
    have h1 : x < 9223372036854775808 * 10 ^ r := (Nat.div_lt_iff_lt_mul hp).mp h
    have h2 : 10 ^ r ≤ 10 ^ 8 := Nat.pow_le_pow_right (by decide) (by omega)
    have h3 : 9223372036854775808 * 10 ^ r ≤ 9223372036854775808 * 10 ^ 8 := Nat.mul_le_mul_left _ h2
    omega
  have e1 : 1000000000 = 10 ^ r * 10 ^ (9 - r) := ten_split (by omega)
  have e2 : 10 ^ (18 - r) = 1000000000 * 10 ^ (9 - r) := by
    rw [show (1000000000 : Nat) = 10 ^ 9 from rfl, ← Nat.pow_add]; congr 1; omega
  have e3 : (1000000000 : Nat) ^ 2 = 1000000000 * 1000000000 := rfl
  rw [e3, ← Nat.div_div_eq_div_mul]
  have s1 := Nat.div_add_mod x 1000000000
  have s2 := Nat.div_add_mod (x / 1000000000) 1000000000
  have s3 : x / 1000000000 / 1000000000 % 1000000000 = x / 1000000000 / 1000000000 := Nat.mod_eq_of_lt (by omega)
  rw [s3]
  generalize hq1 : x / 1000000000 / 1000000000 = d2 at *
  generalize hq0 : x / 1000000000 % 1000000000 = d1 at *
  generalize x % 1000000000 = d0 at *
  have hx2 : x = d0 + 10 ^ r * (10 ^ (9 - r) * (d1 + 1000000000 * d2)) := by
    rw [← Nat.mul_assoc, ← e1]
    omega
  rw [hx2, Nat.add_mul_div_left _ _ hp, e2, Nat.mul_add, Nat.mul_comm d1]
  rw [show d2 * (1000000000 * 10 ^ (9 - r)) = 10 ^ (9 - r) * (1000000000 * d2) by rw [Nat.mul_comm d2, Nat.mul_assoc, Nat.mul_left_comm]]
  omega
theorem top_limb {f : Nat → Int64} {n v : Nat} (h : BigIs f n v) (hn : 0 < n) : dg v (n - 1) = v / 1000000000 ^ (n - 1) ∧ 0 < dg v (n - 1) := by
  obtain ⟨-, ⟨-, h2⟩, h3⟩ := h
  have h3 : 1000000000 ^ (n - 1) ≤ v := by omega
  have e : 1000000000 ^ n = 1000000000 ^ (n - 1) * 1000000000 := by rw [← Nat.pow_succ]; congr 1; omega
  have hp := pB_pos (n - 1)
  have : v / 1000000000 ^ (n - 1) < 1000000000 := by rw [Nat.div_lt_iff_lt_mul hp, Nat.mul_comm]; rw [← e]; exact h2
  unfold dg
  rw [Nat.mod_eq_of_lt this]
  exact ⟨rfl, Nat.div_pos h3 hp⟩
theorem nfig_limb {f : Nat → Int64} {n v k : Nat} (h : BigIs f n v) (hn : 0 < n) (h1 : 10 ^ k ≤ dg v (n - 1)) (h2 : dg v (n - 1) < 10 ^ (k + 1)) : nfig v = (n - 1) * 9 + (k + 1) := by
  obtain ⟨e, -⟩ := top_limb h hn
  rw [e] at h1 h2
  have hp := pB_pos (n - 1)
  refine nfig_of (d := (n - 1) * 9 + k) ?_ ?_
  · rw [show (n - 1) * 9 + k = 9 * (n - 1) + k by omega, p9]
    rw [Nat.le_div_iff_mul_le hp, Nat.mul_comm] at h1
    exact h1
  · rw [show (n - 1) * 9 + k + 1 = 9 * (n - 1) + (k + 1) by omega, p9]
    rw [Nat.div_lt_iff_lt_mul hp, Nat.mul_comm] at h2
    exact h2
theorem BigIs.zero {f : Nat → Int64} {n v : Nat} (h : BigIs f n v) : v = 0 ↔ n = 0 := by
  obtain ⟨-, ⟨-, h2⟩, h3⟩ := h
  constructor
  · intro q
    rcases h3 with r | r
    · exact r
    · have := pB_pos (n - 1); omega
  · intro q
    subst q
    rw [Nat.pow_zero] at h2
    omega
theorem BigIs.limb {f : Nat → Int64} {n v i : Nat} (h : BigIs f n v) (hi : ¬ i < n) : dg v i = 0 := dg_big (Nat.lt_of_lt_of_le h.2.1.2 (pB_mono (by omega)))
/-- adding a power of ten -/
theorem add_start {v w s r : Nat} (hw : w = v + 1000000000 ^ s * 10 ^ r) : w / 1000000000 ^ s = v / 1000000000 ^ s + 10 ^ r ∧ ∀ j, j < s → dg w j = dg v j := by
  subst hw
  refine ⟨Nat.add_mul_div_left _ _ (pB_pos s), fun j hj => ?_⟩
  unfold dg
  have e : 1000000000 ^ s = 1000000000 ^ j * (1000000000 * 1000000000 ^ (s - j - 1)) := by
    rw [Nat.mul_comm 1000000000, ← Nat.pow_succ, ← Nat.pow_add]; congr 1; omega
  rw [e, Nat.mul_assoc, Nat.add_mul_div_left _ _ (pB_pos j), Nat.mul_assoc]
  omega
theorem add_step {v w i ca : Nat} (h : w / 1000000000 ^ i = v / 1000000000 ^ i + ca) : (dg v i + ca) % 1000000000 = dg w i ∧ w / 1000000000 ^ (i + 1) = v / 1000000000 ^ (i + 1) + (dg v i + ca) / 1000000000 := by
  unfold dg
  rw [Nat.pow_succ, ← Nat.div_div_eq_div_mul, ← Nat.div_div_eq_div_mul, h]
  omega
theorem add_rest {v w i : Nat} (h : w / 1000000000 ^ i = v / 1000000000 ^ i) {j : Nat} (hj : i ≤ j) : dg w j = dg v j := by
  unfold dg
  rw [show j = i + (j - i) by omega, Nat.pow_add, ← Nat.div_div_eq_div_mul, ← Nat.div_div_eq_div_mul, h]
theorem ten_63 {r : Nat} (h : r ≤ 18) : 10 ^ r < 9223372036854775808 := Nat.lt_of_le_of_lt (Nat.pow_le_pow_right (by decide) h) (by decide)
theorem prod_end {f : Nat → Int64} {n v F : Nat} (h : BigIs f n v) (hF : F ≤ 1000000000000000000) : v * F / 1000000000 ^ (n + 2) = 0 := by
  apply Nat.div_eq_of_lt
  rw [Nat.pow_add]
  have h1 := h.2.1.2
  have hp := pB_pos n
  calc v * F ≤ v * 1000000000 ^ 2 := Nat.mul_le_mul_left v hF
    _ < 1000000000 ^ n * 1000000000 ^ 2 := Nat.mul_lt_mul_of_pos_right h1 (by decide)
theorem prod_more {w n : Nat} (h : ¬ w / 1000000000 ^ n = 0) : 1000000000 ^ n ≤ w := by
  rcases Nat.lt_or_ge w (1000000000 ^ n) with q | q
  · exact absurd (Nat.div_eq_of_lt q) h
  · exact q
theorem prod_top {f : Nat → Int64} {n v F : Nat} (h : BigIs f n v) (hF : 0 < F) : n = 0 ∨ 1000000000 ^ (n - 1) ≤ v * F := by
  rcases h.2.2 with q | q
  · exact Or.inl q
  · exact Or.inr (Nat.le_trans q (Nat.le_mul_of_pos_right v hF))
theorem rest_lt {bl fh ca : Nat} (h3 : bl < 1000000000) (h4 : fh ≤ 1000000000) (h5 : ca < 2000000000) : bl * fh + ca < 9223372036854775808 := by
  have a2 : bl * fh ≤ 999999999 * 1000000000 := Nat.mul_le_mul (by omega) h4
  omega
theorem low_any {v i k : Nat} (hi : i < k / 9) (h : v % 10 ^ k = 0) : dg v i = 0 := by
  have hd : (10 ^ k : Nat) ∣ v := Nat.dvd_of_mod_eq_zero h
  have e : (10 : Nat) ^ k = 1000000000 ^ i * (1000000000 * 10 ^ (k - 9 * i - 9)) := by
    rw [show (1000000000 : Nat) = 10 ^ 9 from rfl, ← Nat.pow_mul, ← Nat.pow_add, ← Nat.pow_add]
    congr 1
    omega
  obtain ⟨c, rfl⟩ := hd
  unfold dg
  rw [e, Nat.mul_assoc, Nat.mul_div_cancel_left _ (pB_pos i), Nat.mul_assoc, Nat.mul_mod_right]
theorem add_zero_end {v w i n : Nat} (h : w / 1000000000 ^ i = v / 1000000000 ^ i) (hi : i ≤ n) (hv : v < 1000000000 ^ n) : w / 1000000000 ^ n = 0 := by
  have e : 1000000000 ^ n = 1000000000 ^ i * 1000000000 ^ (n - i) := by rw [← Nat.pow_add]; congr 1; omega
  rw [e] at hv ⊢
  rw [← Nat.div_div_eq_div_mul, h, Nat.div_div_eq_div_mul]
  exact Nat.div_eq_of_lt hv
theorem add_top {f : Nat → Int64} {n v k k2 : Nat} (h : BigIs f n v) (hk : k2 = max n (k / 9 + 1)) : k2 = 0 ∨ 1000000000 ^ (k2 - 1) ≤ v + 10 ^ k := by
  right
  rcases Nat.lt_or_ge (k / 9 + 1) n with q | q
  · rw [show k2 - 1 = n - 1 by omega]
    rcases h.2.2 with z | z
    · omega
    · exact Nat.le_trans z (Nat.le_add_right _ _)
  · rw [show k2 - 1 = k / 9 by omega]
    have e : 10 ^ k = 1000000000 ^ (k / 9) * 10 ^ (k % 9) := by rw [← p9]; congr 1; omega
    have : 1000000000 ^ (k / 9) ≤ 1000000000 ^ (k / 9) * 10 ^ (k % 9) := Nat.le_mul_of_pos_right _ (Nat.pow_pos (by decide))
    omega
/-! the exact size: a quarter of the numbers' distance, its power of ten, rounding -/
def exT (sg : Nat) (z : Int) : Int := if sg = 0 then 0 else z - 2
def exQ (sg : Nat) (z : Int) : Nat := (if 0 ≤ exT sg z then 2 ^ (exT sg z).toNat else 5 ^ (-(exT sg z)).toNat) * 10 ^ 18
def exSc (sg : Nat) (z : Int) : Int := if 0 ≤ exT sg z then 18 else 18 - exT sg z
theorem exT_in {sg : Nat} {z : Int} (h : -1074 ≤ z ∧ z ≤ 971) : -1076 ≤ exT sg z ∧ exT sg z ≤ 969 := by unfold exT; split <;> omega
theorem five_le : (2 : Nat) ^ 969 ≤ 5 ^ 1076 := by decide +kernel
theorem room_ok : 5 ^ 1076 * 10 ^ 18 * 36028797018963970 < 1000000000 ^ 124 := by decide +kernel
theorem exB_le {sg : Nat} {z : Int} (h : -1074 ≤ z ∧ z ≤ 971) : (if 0 ≤ exT sg z then 2 ^ (exT sg z).toNat else 5 ^ (-(exT sg z)).toNat) ≤ 5 ^ 1076 := by
  have ht := exT_in (sg := sg) h
  split
  · exact Nat.le_trans (Nat.pow_le_pow_right (by decide) (show (exT sg z).toNat ≤ 969 by omega)) five_le
  · exact Nat.pow_le_pow_right (by decide) (by omega)
theorem exQ_room {sg : Nat} {z : Int} (h : -1074 ≤ z ∧ z ≤ 971) {k : Nat} (hk : k ≤ 36028797018963970) : exQ sg z * k < 1000000000 ^ 124 := by
  refine Nat.lt_of_le_of_lt (Nat.mul_le_mul (Nat.mul_le_mul_right _ (exB_le (sg := sg) h)) hk) room_ok
theorem exQ_pos (sg : Nat) (z : Int) : 0 < exQ sg z := by
  unfold exQ
  refine Nat.mul_pos ?_ (by decide)
  split <;> exact Nat.pow_pos (by decide)
def upB (v k w : Nat) : Bool :=
  if w = 0 then false else if w = 1 then decide (¬ v % 10 ^ k = 0) else
  if figAt v ((k : Int) - 1) = 5 then decide (w = 2 ∨ ¬ v % 10 ^ (k - 1) = 0 ∨ figAt v k % 2 = 1) else decide (5 < figAt v ((k : Int) - 1))
def rnd (v : Nat) (z : Int) (w : Nat) : Nat := if 0 < z ∧ upB v z.toNat w = true then v + 10 ^ z.toNat else v
/-! the paper -/
theorem byte_ok : ∀ x : Nat, x < 128 → vp_nar .byte (iZ ((x : Nat) : Int)) = iZ ((x : Nat) : Int) := by decide +kernel
def PaperIs (g : Nat → Int32) (t : List Nat) : Prop := t.length ≤ 1440 ∧ (∀ j, j < t.length → g j = iZ ((t.getD j 0 : Nat) : Int)) ∧ ∀ x ∈ t, x < 128
theorem paper_put {g : Nat → Int32} {t : List Nat} {x : Nat} (h : PaperIs g t) (hl : t.length < 1440) (hx : x < 128) : PaperIs (upd g t.length (vp_nar .byte (iZ ((x : Nat) : Int)))) (t ++ [x]) := by
  obtain ⟨-, h2, h3⟩ := h
  have hb : vp_nar .byte (iZ ((x : Nat) : Int)) = iZ ((x : Nat) : Int) := byte_ok x hx
  refine ⟨by rw [List.length_append]; simp; omega, fun j hj => ?_, fun y hy => ?_⟩
  · rw [List.length_append] at hj
    by_cases q : j = t.length
    · subst q
      rw [pk_us, hb]
      simp
    · rw [pk_un q, h2 j (by simp at hj; omega)]
      have : j < t.length := by simp at hj; omega
      rw [List.getD_eq_getElem?_getD, List.getD_eq_getElem?_getD, List.getElem?_append_left this]
  · rcases List.mem_append.mp hy with q | q
    · exact h3 y q
    · have : y = x := by simpa using q
      omega
theorem paper_nil (g : Nat → Int32) : PaperIs g [] := ⟨by decide, fun j h => absurd h (Nat.not_lt_zero j), fun x h => by cases h⟩
/-- the letter of a figure -/
def chr (d : Nat) : Nat := if d < 10 then 48 + d else 87 + d
theorem chr_lt {d : Nat} (h : d < 16) : chr d < 128 := by unfold chr; split <;> omega
theorem one_big (f : Nat → Int64) : BigIs (vp_updL f 0 (lN 1)) 1 1 := by
  refine ⟨by decide, ⟨fun i h => ?_, by decide⟩, Or.inr (by decide)⟩
  have e : i = 0 := by omega
  subst e
  rw [pk_uLs]
  rfl
theorem round_room {v k : Nat} (hv : v < 1000000000 ^ 123) (hk : k < 1110) : v + 10 ^ k < 1000000000 ^ 124 := by
  have h1 : 10 ^ k ≤ 10 ^ 1109 := Nat.pow_le_pow_right (by decide) (by omega)
  have h2 : 1000000000 ^ 123 + 10 ^ 1109 < 1000000000 ^ 124 := by decide +kernel
  omega
theorem char_ok : ∀ x : Nat, x < 128 → ((iZ ((x : Nat) : Int)).toUInt32 % 65536).toInt32 = iZ ((x : Nat) : Int) := by decide +kernel
/-- a number of at most four figures -/
def numQ (n : Nat) : Nat → List Nat
  | 0 => []
  | j + 1 => numQ n j ++ (if 0 < n / 10 ^ (3 - j) ∨ 3 - j = 0 then [chr (n / 10 ^ (3 - j) % 10)] else [])
def numT (z : Int) : List Nat := (if z < 0 then [45] else []) ++ numQ z.natAbs 4
theorem numQ_t {n j : Nat} (h : 0 < n / 10 ^ (3 - j) ∨ 3 - j = 0) : numQ n (j + 1) = numQ n j ++ [chr (n / 10 ^ (3 - j) % 10)] := by rw [numQ, if_pos h]
theorem numQ_f {n j : Nat} (h1 : n / 10 ^ (3 - j) = 0) (h2 : ¬ 3 - j = 0) : numQ n (j + 1) = numQ n j := by rw [numQ, if_neg (by omega), List.append_nil]
theorem numQ_len (n j : Nat) : (numQ n j).length ≤ j := by
  induction j with
  | zero => exact Nat.le_refl 0
  | succ j ih =>
    rw [numQ, List.length_append]
    split
    · simp; exact ih
    · simp; omega
theorem num_room {t u : List Nat} {z : Int} {j : Nat} (h : t.length + 5 ≤ 1440) (hu : u.length ≤ j) (hj : j ≤ 3) : (t ++ (if z < 0 then [45] else []) ++ u).length < 1440 := by
  simp only [List.length_append]
  split
  · simp; omega
  · simp; omega
/-! the shortest decimal, as the numbers cut to 18 figures tell it -/
def nNo : Nat := 18446744073709551615
def uF (sz lo : Nat) (lc bc : Bool) (ut : Nat) : Bool := decide (lo < sz - sz % ut) || (decide (sz - sz % ut = lo) && (!lc && bc))
def oF (sz hi : Nat) (hc bc : Bool) (ut : Nat) : Bool := decide (sz - sz % ut + ut < hi) || (decide (sz - sz % ut + ut = hi) && (hc || bc))
def nrO (sz : Nat) (sc : Bool) (un ut : Nat) : Bool := if sz = un + ut / 2 ∧ sc = false then decide (un / ut % 2 = 1) else decide (un + ut / 2 ≤ sz)
def nOU (sz : Nat) (sc : Bool) (lo : Nat) (lc : Bool) (hi : Nat) (hc bc : Bool) (ut : Nat) : Nat :=
  if uF sz lo lc bc ut = true ∧ oF sz hi hc bc ut = true then (if nrO sz sc (sz - sz % ut) ut = true then sz - sz % ut + ut else sz - sz % ut)
  else if uF sz lo lc bc ut = true then sz - sz % ut else if oF sz hi hc bc ut = true then sz - sz % ut + ut else nNo
def nLL (sz : Nat) (sc : Bool) (lo : Nat) (lc : Bool) (hi : Nat) (hc bc : Bool) : Nat → Nat → Nat
  | _, 0 => sz
  | j, k + 1 => if nOU sz sc lo lc hi hc bc (10 ^ (18 - j)) = nNo then nLL sz sc lo lc hi hc bc (j + 1) k else nOU sz sc lo lc hi hc bc (10 ^ (18 - j))
def drZ : Nat → Nat → Int → Nat × Int
  | 0, c, t => (c, t)
  | k + 1, c, t => if c % 10 = 0 then drZ k (c / 10) (t + 1) else (c, t)
theorem nOU_lt {sz : Nat} {sc : Bool} {lo : Nat} {lc : Bool} {hi : Nat} {hc bc : Bool} {ut : Nat} (h : sz < 1000000000000000000) (hu : ut ≤ 10000000000000000) : nOU sz sc lo lc hi hc bc ut < 1010000000000000000 ∨ nOU sz sc lo lc hi hc bc ut = nNo := by
  have h1 := Nat.sub_le sz (sz % ut)
  unfold nOU
  split
  · split
    · left; omega
    · left; omega
  · split
    · left; omega
    · split
      · left; omega
      · right; rfl
theorem nLL_lt {sz : Nat} {sc : Bool} {lo : Nat} {lc : Bool} {hi : Nat} {hc bc : Bool} (h : sz < 1000000000000000000) : ∀ (k j : Nat), 2 ≤ j → nLL sz sc lo lc hi hc bc j k < 1010000000000000000 := by
  intro k
  induction k with
  | zero => intro j _; show sz < _; omega
  | succ k ih =>
    intro j hj
    rw [nLL]
    split
    · exact ih (j + 1) (by omega)
    · rename_i q
      have hu : 10 ^ (18 - j) ≤ 10000000000000000 := p10_le (j := 16) (by omega)
      rcases nOU_lt (sc := sc) (lo := lo) (lc := lc) (hi := hi) (hc := hc) (bc := bc) h hu with z | z
      · exact z
      · exact absurd z q
theorem nOU64 {sz : Nat} {sc : Bool} {lo : Nat} {lc : Bool} {hi : Nat} {hc bc : Bool} {ut : Nat} (h : sz < 1000000000000000000) (hu : ut ≤ 10000000000000000) : nOU sz sc lo lc hi hc bc ut < 18446744073709551616 := by
  rcases nOU_lt (sc := sc) (lo := lo) (lc := lc) (hi := hi) (hc := hc) (bc := bc) h hu with z | z
  · omega
  · rw [z]; decide
theorem figAt_neg {v : Nat} {z : Int} (h : z < 0) : figAt v z = 0 := by unfold figAt; rw [if_pos h]
theorem figAt_big {v k : Nat} {z : Int} (h1 : v < 10 ^ k) (h2 : (k : Int) ≤ z) : figAt v z = 0 := by
  unfold figAt
  rw [if_neg (by omega), Nat.div_eq_of_lt (Nat.lt_of_lt_of_le h1 (Nat.pow_le_pow_right (by decide) (by omega)))]
/-! texts -/
def dnT (G : Int → List Nat) (hi : Int) : Nat → List Nat
  | 0 => []
  | k + 1 => dnT G hi k ++ G (hi - (k : Int))
theorem dnT_len {G : Int → List Nat} {hi : Int} {m : Nat} (h : ∀ z, (G z).length ≤ m) (k : Nat) : (dnT G hi k).length ≤ m * k := by
  induction k with
  | zero => exact Nat.le_refl 0
  | succ k ih => rw [dnT, List.length_append, Nat.mul_succ]; have := h (hi - (k : Int)); omega
def sgT (b : Nat) (nw : Bool) : List Nat := if b / fS nw % 2 = 1 then [45] else []
theorem sgT_len (b : Nat) (nw : Bool) : (sgT b nw).length ≤ 1 := by unfold sgT; split <;> decide
/-- a figure with the point ahead of it at the place pt -/
def ptG (v : Nat) (o pt : Int) (z : Int) : List Nat := (if z = pt then [46] else []) ++ [chr (figAt v (z - o))]
theorem ptG_len (v : Nat) (o pt z : Int) : (ptG v o pt z).length ≤ 2 := by unfold ptG; split <;> simp
def plT (co : Nat) (tn fp : Int) : List Nat := dnT (ptG co tn (-1)) (max fp 0) (max fp 0 - min tn (-1) + 1).toNat
def fgG (v : Nat) (o : Int) (z : Int) : List Nat := [chr (figAt v (z - o))]
theorem fgG_len (v : Nat) (o z : Int) : (fgG v o z).length ≤ 1 := Nat.le_refl 1
def pwT (co : Nat) (tn fp : Int) : List Nat := [chr (figAt co (fp - tn))] ++ [46] ++ dnT (fgG co tn) (fp - 1) (fp - 1 - min tn (fp - 1) + 1).toNat ++ [69] ++ numT fp
/-! hexadecimal figures -/
def hxd (fr p : Nat) : Nat := fr / 2 ^ (4 * p) % 16
def hxL (fr : Nat) : Nat → Nat → Nat
  | k, 0 => k
  | k, m + 1 => if hxd fr k = 0 then hxL fr (k + 1) m else k
def hxG (fr : Nat) (z : Int) : List Nat := [chr (hxd fr z.toNat)]
def hxT (fr nf : Nat) : List Nat := dnT (hxG fr) (((nf - 1 : Nat) : Int)) (nf - hxL fr 0 (nf - 1))
theorem hxd_lt (fr p : Nat) : hxd fr p < 16 := Nat.mod_lt _ (by decide)
theorem hxd_and (fr p : Nat) : (fr / 2 ^ (4 * p)) &&& 15 = hxd fr p := Nat.and_two_pow_sub_one_eq_mod (fr / 2 ^ (4 * p)) 4
theorem hxG_len (fr : Nat) (z : Int) : (hxG fr z).length ≤ 1 := Nat.le_refl 1
theorem hxL_le (fr m k : Nat) : hxL fr k m ≤ k + m := by
  induction m generalizing k with
  | zero => exact Nat.le_refl k
  | succ m ih =>
    rw [hxL]
    split
    · have := ih (k + 1); omega
    · omega
theorem hxG_at {fr nf j : Nat} (h : j < nf) : hxG fr (((nf - 1 : Nat) : Int) - ((j : Nat) : Int)) = [chr (hxd fr (nf - 1 - j))] := by
  unfold hxG
  rw [show (((nf - 1 : Nat) : Int) - ((j : Nat) : Int)).toNat = nf - 1 - j by omega]
/-! from one format to the other, and from one number to the next -/
def hTE (v t : Nat) : Nat := if 2 ^ (t - 1) < v % 2 ^ t ∨ (v % 2 ^ t = 2 ^ (t - 1) ∧ v / 2 ^ t % 2 = 1) then v / 2 ^ t + 1 else v / 2 ^ t
def nSz (x : Nat) : Nat := if x = 9218868437227405312 then 2139095040 else if 896 < fE x false then min (hTE (x - 4035225266123964416) 29) 2139095040 else hTE (fM x false) (min (926 - fE x false) 60)
def wSz (x : Nat) : Nat := if x = 2139095040 then 9218868437227405312 else if 0 < fE x true then x * 2 ^ 29 + 4035225266123964416 else if x = 0 then 0 else (Nat.log2 x + 874) * 2 ^ 52 + fF (x * 2 ^ (52 - Nat.log2 x)) false
def narF (b : Nat) : Nat := if 9218868437227405312 < fSz b false then 2143289344 else (if b / fS false % 2 = 1 then fS true else 0) + nSz (fSz b false)
def widF (b : Nat) : Nat := if 2139095040 < fSz b true then 9221120237041090560 else (if b / fS true % 2 = 1 then fS false else 0) + wSz (fSz b true)
def nxtF (b : Nat) (nw up : Bool) : Nat :=
  if fI nw < fSz b nw then b else if fSz b nw = 0 then (if up = true then 1 else fS nw + 1)
  else if (b / fS nw % 2 = 1 ↔ up = true) then b - 1 else if fSz b nw = fI nw then b else b + 1
theorem p62 {t : Nat} (h : t ≤ 62) : 2 ^ t < 9223372036854775808 := Nat.lt_of_le_of_lt (Nat.pow_le_pow_right (by decide) h) (by decide)
theorem log2_at {x t : Nat} (h1 : 2 ^ t ≤ x) (h2 : x < 2 ^ (t + 1)) : Nat.log2 x = t := by
  have hx : x ≠ 0 := by have := Nat.pow_pos (n := t) (show 0 < 2 by decide); omega
  have a := (Nat.le_log2 hx).mpr h1
  have c := (Nat.log2_lt hx).mpr h2
  omega
theorem fE_ge {x : Nat} (h : 896 < fE x false) : 4035225266123964416 ≤ x := by
  unfold fE fSz at h
  have e1 : fS false = 9223372036854775808 := rfl
  have e2 : (2 : Nat) ^ fP false = 4503599627370496 := rfl
  rw [e1, e2] at h
  omega
theorem hTE_lt {v t : Nat} (h : v < 9223372036854775808) (ht : 1 ≤ t) : hTE v t < 9223372036854775808 := by
  have h2 : 2 ^ 1 ≤ 2 ^ t := Nat.pow_le_pow_right (by decide) ht
  have := Nat.div_le_div_left (a := v) h2 (by decide)
  unfold hTE
  split <;> omega
theorem lt_of_div0 {a b : Nat} (hb : 0 < b) (h : a / b = 0) : a < b := by
  rcases Nat.lt_or_ge a b with q | q
  · exact q
  · exact absurd h (Nat.ne_of_gt (Nat.div_pos q hb))
theorem wid_small {x : Nat} (hx : x ≤ 2139095040) (h : fE x true = 0) : x < 2 ^ (22 + 1) := by
  unfold fE fSz at h
  have e1 : fS true = 2147483648 := rfl
  have e2 : (2 : Nat) ^ fP true = 8388608 := rfl
  rw [e1, e2] at h
  omega
theorem wid_lt {x k : Nat} (h : Nat.log2 x = k) (hk : k ≤ 22) : x * 2 ^ (52 - k) < 18446744073709551616 := by
  have h1 : x < 2 ^ (k + 1) := by rw [← h]; exact Nat.lt_log2_self
  have h2 : x * 2 ^ (52 - k) < 2 ^ (k + 1) * 2 ^ (52 - k) := Nat.mul_lt_mul_of_pos_right h1 (Nat.pow_pos (by decide))
  rw [← Nat.pow_add, show k + 1 + (52 - k) = 53 by omega] at h2
  exact Nat.lt_trans h2 (by decide)
theorem wid_or {x k : Nat} (h : Nat.log2 x = k) (hE : fE x true = 0) (hi : ¬ x = 2139095040) (h0 : 0 < x) : ((k + 874) * 2 ^ 52) ||| fF (x * 2 ^ (52 - k)) false = wSz x := by
  unfold wSz
  rw [if_neg hi, if_neg (by omega), if_neg (by omega), h]
  have h1 := Nat.two_pow_add_eq_or_of_lt (i := 52) (b := fF (x * 2 ^ (52 - k)) false) (fF_lt _ false) (k + 874)
  rw [Nat.mul_comm, ← h1]
/-! the shortest decimal of a number -/
def cutN (V : Nat) : Nat := nfig V - 18
def cutB (V k : Nat) : Bool := decide (¬ V % 10 ^ k = 0)
def qV (b : Nat) (nw : Bool) : Nat := exQ (fM b nw) (fW b nw)
def loK (b : Nat) (nw : Bool) : Nat := if fF b nw = 0 ∧ 1 < fE b nw then 1 else 2
def sV (b : Nat) (nw : Bool) : Nat := qV b nw * (4 * fM b nw)
def lV (b : Nat) (nw : Bool) : Nat := qV b nw * (4 * fM b nw - loK b nw)
def hV (b : Nat) (nw : Bool) : Nat := qV b nw * (4 * fM b nw + 2)
def cK (b : Nat) (nw : Bool) : Nat := cutN (sV b nw)
def co0 (b : Nat) (nw : Bool) : Nat := nLL (sV b nw / 10 ^ cK b nw) (cutB (sV b nw) (cK b nw)) (lV b nw / 10 ^ cK b nw) (cutB (lV b nw) (cK b nw)) (hV b nw / 10 ^ cK b nw) (cutB (hV b nw) (cK b nw)) (decide (fM b nw % 2 = 0)) 2 16
theorem shD_ex (b : Nat) (nw : Bool) : ∃ x : Nat × Int, x = drZ 18 (co0 b nw) ((cK b nw : Int) - exSc (fM b nw) (fW b nw)) := ⟨_, rfl⟩
noncomputable def shD (b : Nat) (nw : Bool) : Nat × Int := Classical.choose (shD_ex b nw)
theorem shD_eq (b : Nat) (nw : Bool) : shD b nw = drZ 18 (co0 b nw) ((cK b nw : Int) - exSc (fM b nw) (fW b nw)) := Classical.choose_spec (shD_ex b nw)
theorem nfig_pos {v : Nat} (h : 0 < v) : ∃ d, nfig v = d + 1 ∧ 10 ^ d ≤ v ∧ v < 10 ^ (d + 1) := by
  have key : ∀ n, v < 10 ^ n → ∃ d, 10 ^ d ≤ v ∧ v < 10 ^ (d + 1) := by
    intro n
    induction n with
    | zero => intro q; rw [Nat.pow_zero] at q; omega
    | succ n ih =>
      intro q
      rcases Nat.lt_or_ge v (10 ^ n) with z | z
      · exact ih z
      · exact ⟨n, z, q⟩
  obtain ⟨d, h1, h2⟩ := key v (Nat.lt_pow_self (by decide))
  exact ⟨d, nfig_of h1 h2, h1, h2⟩
theorem cut_lt (V : Nat) : V / 10 ^ cutN V < 1000000000000000000 := by
  unfold cutN
  rcases Nat.eq_zero_or_pos V with q | q
  · rw [q, Nat.zero_div]; decide
  · obtain ⟨d, h1, h2, h3⟩ := nfig_pos q
    rw [h1, Nat.div_lt_iff_lt_mul (Nat.pow_pos (by decide)), show (1000000000000000000 : Nat) = 10 ^ 18 from rfl, ← Nat.pow_add]
    exact Nat.lt_of_lt_of_le h3 (Nat.pow_le_pow_right (by decide) (by omega))
theorem cut_lt2 {V X : Nat} (h : X ≤ 2 * V) : X / 10 ^ cutN V < 9223372036854775808 := by
  have h1 := cut_lt V
  have hp : 0 < 10 ^ cutN V := Nat.pow_pos (by decide)
  rw [Nat.div_lt_iff_lt_mul hp] at h1 ⊢
  generalize 10 ^ cutN V = p at *
  omega
theorem nfig_le {v n : Nat} (h : v < 10 ^ n) : nfig v ≤ n := by
  rcases Nat.eq_zero_or_pos v with q | q
  · rw [q, nfig_0]; exact Nat.zero_le n
  · obtain ⟨d, h1, h2, h3⟩ := nfig_pos q
    rw [h1]
    rcases Nat.lt_or_ge d n with z | z
    · exact z
    · exact absurd (Nat.lt_of_le_of_lt (Nat.le_trans (Nat.pow_le_pow_right (by decide) z) h2) h) (Nat.lt_irrefl _)
theorem fin_E {b : Nat} {nw : Bool} (h : fSz b nw < fI nw) : fE b nw ≤ 2046 ∧ (nw = true → fE b nw ≤ 254) := by
  unfold fE
  cases nw
  · have e2 : (2 : Nat) ^ fP false = 4503599627370496 := rfl
    have e3 : fI false = 9218868437227405312 := rfl
    rw [e2]; rw [e3] at h
    exact ⟨by omega, fun q => absurd q (by decide)⟩
  · have e2 : (2 : Nat) ^ fP true = 8388608 := rfl
    have e3 : fI true = 2139095040 := rfl
    rw [e2]; rw [e3] at h
    exact ⟨by omega, fun _ => by omega⟩
theorem fW_fin {b : Nat} {nw : Bool} (h : fSz b nw < fI nw) : -1074 ≤ fW b nw ∧ fW b nw ≤ 971 := by
  obtain ⟨h1, h2⟩ := fin_E h
  unfold fW fB
  cases nw
  · rw [if_neg (by decide)]; omega
  · have := h2 rfl
    rw [if_pos rfl]; omega
theorem room_n : (1000000000 : Nat) ^ 124 = 10 ^ 1116 := by rw [show (1000000000 : Nat) = 10 ^ 9 from rfl, ← Nat.pow_mul]
theorem room_k (b : Nat) (nw : Bool) (h : fSz b nw < fI nw) : cK b nw ≤ 1098 ∧ nfig (sV b nw) ≤ 1116 := by
  have h1 : sV b nw < 10 ^ 1116 := by
    rw [← room_n]
    exact exQ_room (fW_fin h) (by have := fM_lt b nw; omega)
  have h2 := nfig_le h1
  unfold cK cutN
  omega
theorem loK_le (b : Nat) (nw : Bool) : 1 ≤ loK b nw ∧ loK b nw ≤ 2 := by unfold loK; split <;> omega
theorem low_le (b : Nat) (nw : Bool) : lV b nw ≤ 2 * sV b nw := by
  unfold lV sV
  have : qV b nw * (4 * fM b nw - loK b nw) ≤ qV b nw * (4 * fM b nw) := Nat.mul_le_mul_left _ (Nat.sub_le _ _)
  omega
theorem high_le {b : Nat} {nw : Bool} (h : ¬ fM b nw = 0) : hV b nw ≤ 2 * sV b nw := by
  unfold hV sV
  have : qV b nw * (4 * fM b nw + 2) ≤ qV b nw * (2 * (4 * fM b nw)) := Nat.mul_le_mul_left _ (by omega)
  rw [Nat.mul_left_comm] at this
  exact this
