/-! figures of the reference's rows: order, cutting, halves -/
theorem dt_step (v j : Nat) : v / 10 ^ j = 10 * (v / 10 ^ (j + 1)) + dt v j := by
  unfold dt
  rw [Nat.pow_succ, ← Nat.div_div_eq_div_mul]
  omega
theorem dt_eq_step {x y j : Nat} (h : x / 10 ^ (j + 1) = y / 10 ^ (j + 1)) (hd : dt x j = dt y j) : x / 10 ^ j = y / 10 ^ j := by rw [dt_step x j, dt_step y j, h, hd]
theorem dt_lt_step {x y j : Nat} (h : x / 10 ^ (j + 1) = y / 10 ^ (j + 1)) (hd : dt x j < dt y j) : x < y := by
  have h1 : x / 10 ^ j < y / 10 ^ j := by rw [dt_step x j, dt_step y j, h]; omega
  rcases Nat.lt_or_ge x y with q | q
  · exact q
  · exact absurd (Nat.div_le_div_right (c := 10 ^ j) q) (by omega)
def cmpN (x y : Nat) : Int := if x < y then -1 else if x = y then 0 else 1
theorem cmpN_in (x y : Nat) : -1 ≤ cmpN x y ∧ cmpN x y ≤ 1 := by unfold cmpN; split; omega; split <;> omega
theorem cmp_gt {x y : Nat} : 0 < cmpN x y ↔ y < x := by unfold cmpN; split; omega; split <;> omega
theorem cmp_lt {x y : Nat} : cmpN x y < 0 ↔ x < y := by unfold cmpN; split; omega; split <;> omega
theorem cmp_eq {x y : Nat} : cmpN x y = 0 ↔ x = y := by unfold cmpN; split; omega; split <;> omega
/-- top figure -/
theorem top_fig {v j : Nat} (h1 : v / 10 ^ (j + 1) = 0) (h2 : ¬ dt v j = 0) : nfig v = j + 1 := by
  have h3 := dt_step v j
  rw [h1] at h3
  have hp : 0 < 10 ^ (j + 1) := Nat.pow_pos (by decide)
  refine nfig_of ?_ ?_
  · rcases Nat.lt_or_ge v (10 ^ j) with q | q
    · rw [Nat.div_eq_of_lt q] at h3; omega
    · exact q
  · rcases Nat.lt_or_ge v (10 ^ (j + 1)) with q | q
    · exact q
    · exact absurd h1 (Nat.ne_of_gt (Nat.div_pos q hp))
/-- cut at a place, or one more there -/
def ctN (v k : Nat) (mr : Bool) : Nat := v - v % 10 ^ k + if mr = true then 10 ^ k else 0
theorem ct_dvd (v k : Nat) : v - v % 10 ^ k = 10 ^ k * (v / 10 ^ k) := by
  have := Nat.div_add_mod v (10 ^ k)
  omega
theorem dt_ct_lo {v k j : Nat} (h : j < k) : dt (v - v % 10 ^ k) j = 0 := by
  rw [ct_dvd]
  unfold dt
  have e : 10 ^ k = 10 ^ j * (10 * 10 ^ (k - j - 1)) := by rw [← Nat.pow_succ', ← Nat.pow_add]; congr 1; omega
  rw [e, Nat.mul_assoc, Nat.mul_div_cancel_left _ (Nat.pow_pos (by decide)), Nat.mul_assoc, Nat.mul_mod_right]
theorem dt_ct_hi {v k j : Nat} (h : k ≤ j) : dt (v - v % 10 ^ k) j = dt v j := by
  rw [ct_dvd]
  unfold dt
  have e : 10 ^ j = 10 ^ k * 10 ^ (j - k) := by rw [← Nat.pow_add]; congr 1; omega
  rw [e, Nat.mul_div_mul_left _ _ (Nat.pow_pos (by decide)), Nat.div_div_eq_div_mul]
/-- one carry -/
theorem cy_nine {y w j : Nat} (h : y + 10 ^ j = w) (hd : 10 ^ j ∣ y) (h9 : dt y j = 9) : (y - 9 * 10 ^ j) + 10 ^ (j + 1) = w ∧ 10 ^ (j + 1) ∣ (y - 9 * 10 ^ j) ∧ 9 * 10 ^ j ≤ y := by
  obtain ⟨x, rfl⟩ := hd
  have hp : 0 < 10 ^ j := Nat.pow_pos (by decide)
  unfold dt at h9
  rw [Nat.mul_div_cancel_left _ hp] at h9
  have hx : 10 * (x / 10) + 9 = x := by omega
  have e : 10 ^ (j + 1) = 10 ^ j * 10 := Nat.pow_succ ..
  have h1 : 10 ^ j * x = 10 ^ j * 10 * (x / 10) + 9 * 10 ^ j := by
    rw [Nat.mul_assoc, Nat.mul_comm 9, ← Nat.mul_add, hx]
  refine ⟨?_, ⟨x / 10, ?_⟩, ?_⟩
  · rw [e]; omega
  · rw [e]; omega
  · omega
theorem dt_sub9 {y j q : Nat} (hd : 10 ^ j ∣ y) (h9 : dt y j = 9) : dt (y - 9 * 10 ^ j) q = if q = j then 0 else dt y q := by
  obtain ⟨x, rfl⟩ := hd
  have hp : 0 < 10 ^ j := Nat.pow_pos (by decide)
  unfold dt at h9 ⊢
  rw [Nat.mul_div_cancel_left _ hp] at h9
  have hx : 10 * (x / 10) + 9 = x := by omega
  have e : 10 ^ j * x - 9 * 10 ^ j = 10 ^ j * (10 * (x / 10)) := by
    have h1 : 10 ^ j * x = 10 ^ j * (10 * (x / 10)) + 9 * 10 ^ j := by rw [Nat.mul_comm 9, ← Nat.mul_add, hx]
    omega
  rw [e]
  rcases Nat.lt_trichotomy q j with z | z | z
  · rw [if_neg (by omega)]
    have e2 : 10 ^ j = 10 ^ q * (10 * 10 ^ (j - q - 1)) := by rw [← Nat.pow_succ', ← Nat.pow_add]; congr 1; omega
    have hq : 0 < 10 ^ q := Nat.pow_pos (by decide)
    rw [e2, Nat.mul_assoc (10 ^ q), Nat.mul_div_cancel_left _ hq, Nat.mul_assoc (10 ^ q), Nat.mul_div_cancel_left _ hq, Nat.mul_assoc 10, Nat.mul_mod_right, Nat.mul_assoc 10, Nat.mul_mod_right]
  · subst z
    rw [if_pos rfl, Nat.mul_div_cancel_left _ hp, Nat.mul_mod_right]
  · rw [if_neg (by omega)]
    have e2 : 10 ^ q = 10 ^ j * (10 * 10 ^ (q - j - 1)) := by rw [← Nat.pow_succ', ← Nat.pow_add]; congr 1; omega
    rw [e2, Nat.mul_div_mul_left _ _ hp, Nat.mul_div_mul_left _ _ hp, ← Nat.div_div_eq_div_mul, ← Nat.div_div_eq_div_mul, Nat.mul_div_cancel_left _ (by decide)]
theorem dt_add1 {y j q : Nat} (hd : 10 ^ j ∣ y) (h9 : ¬ dt y j = 9) : dt (y + 10 ^ j) q = if q = j then dt y j + 1 else dt y q := by
  obtain ⟨x, rfl⟩ := hd
  have hp : 0 < 10 ^ j := Nat.pow_pos (by decide)
  unfold dt at h9 ⊢
  rw [Nat.mul_div_cancel_left _ hp] at h9 ⊢
  have e : 10 ^ j * x + 10 ^ j = 10 ^ j * (x + 1) := (Nat.mul_succ ..).symm
  rw [e]
  rcases Nat.lt_trichotomy q j with z | z | z
  · rw [if_neg (by omega)]
    have e2 : 10 ^ j = 10 ^ q * (10 * 10 ^ (j - q - 1)) := by rw [← Nat.pow_succ', ← Nat.pow_add]; congr 1; omega
    have hq : 0 < 10 ^ q := Nat.pow_pos (by decide)
    rw [e2, Nat.mul_assoc (10 ^ q), Nat.mul_div_cancel_left _ hq, Nat.mul_assoc (10 ^ q), Nat.mul_div_cancel_left _ hq, Nat.mul_assoc 10, Nat.mul_mod_right, Nat.mul_assoc 10, Nat.mul_mod_right]
  · subst z
    rw [if_pos rfl, Nat.mul_div_cancel_left _ hp]
    omega
  · rw [if_neg (by omega)]
    have e2 : 10 ^ q = 10 ^ j * (10 * 10 ^ (q - j - 1)) := by rw [← Nat.pow_succ', ← Nat.pow_add]; congr 1; omega
    rw [e2, Nat.mul_div_mul_left _ _ hp, Nat.mul_div_mul_left _ _ hp, ← Nat.div_div_eq_div_mul, ← Nat.div_div_eq_div_mul]
    congr 2
    omega
/-- against the half of a place -/
def haF (v k : Nat) : Int := if k = 0 ∨ ¬ dt v (k - 1) = 5 then (if 0 < k ∧ 5 < dt v (k - 1) then 1 else -1) else if v % 10 ^ (k - 1) = 0 then 0 else 1
theorem haF_in (v k : Nat) : -1 ≤ haF v k ∧ haF v k ≤ 1 := by unfold haF; split <;> split <;> omega
theorem mod_dt (v k : Nat) : v % 10 ^ (k + 1) = v % 10 ^ k + 10 ^ k * dt v k := by
  unfold dt
  rw [Nat.pow_succ, Nat.mod_mul]
theorem mod0_dt {v k : Nat} : v % 10 ^ (k + 1) = 0 ↔ v % 10 ^ k = 0 ∧ dt v k = 0 := by
  rw [mod_dt]
  have hp : 0 < 10 ^ k := Nat.pow_pos (by decide)
  constructor
  · intro h
    refine ⟨by omega, ?_⟩
    rcases Nat.eq_zero_or_pos (dt v k) with q | q
    · exact q
    · exact absurd h (Nat.ne_of_gt (Nat.lt_of_lt_of_le (Nat.mul_pos hp q) (Nat.le_add_left _ _)))
  · intro ⟨h1, h2⟩; rw [h1, h2]; omega
theorem mod0_up {v i k : Nat} (h : i < k) (hd : ¬ dt v i = 0) : ¬ v % 10 ^ k = 0 := by
  intro q
  have : v % 10 ^ (i + 1) = 0 := Nat.mod_eq_zero_of_dvd (Nat.dvd_trans (Nat.pow_dvd_pow 10 (by omega)) (Nat.dvd_of_mod_eq_zero q))
  exact hd (mod0_dt.mp this).2
def rbP (vr vl vh : Nat) (ev : Bool) : Bool := decide ((vl < vr ∨ vl = vr ∧ ev = true) ∧ (vr < vh ∨ vr = vh ∧ ev = true))
theorem div_in {x d : Nat} (h : x < 1000000000) : 0 ≤ ((x / d : Nat) : Int) ∧ ((x / d : Nat) : Int) < 2147483648 := by
  have h1 := Nat.div_le_self x d
  generalize x / d = y at *
  omega
theorem set_low {x y i j : Nat} (h : j < i) : dg (x + y * 1000000000 ^ i) j = dg x j := by
  unfold dg
  have e : 1000000000 ^ i = 1000000000 ^ j * (1000000000 * 1000000000 ^ (i - j - 1)) := by rw [← Nat.pow_succ', ← Nat.pow_add]; congr 1; omega
  rw [e, Nat.mul_left_comm, Nat.add_mul_div_left _ _ (pB_pos j), Nat.mul_left_comm, Nat.add_mul_mod_self_left]
theorem set_T (u n i : Nat) : u * (n % 1000000000 ^ i) + (n / 1000000000 ^ i % 1000000000) * u * 1000000000 ^ i = u * (n % 1000000000 ^ (i + 1)) := by
  rw [mod_pB_succ, Nat.mul_add]
  unfold dg
  congr 1
  simp only [Nat.mul_assoc, Nat.mul_comm, Nat.mul_left_comm]
theorem set_i {n i : Nat} (h : n < 9223372036854775808) (hd : 0 < n / 1000000000 ^ i) : i < 3 := by
  rcases Nat.lt_or_ge i 3 with q | q
  · exact q
  · have h1 : 1000000000 ^ 3 ≤ 1000000000 ^ i := pB_mono q
    have h2 : n < 1000000000 ^ i := Nat.lt_of_lt_of_le (Nat.lt_trans h (by decide)) h1
    rw [Nat.div_eq_of_lt h2] at hd
    exact absurd hd (Nat.lt_irrefl 0)
theorem cut_j {y j : Nat} (h : y + 10 ^ j < 10 ^ 1404) : j < 1404 := by
  rcases Nat.lt_or_ge j 1404 with q | q
  · exact q
  · exact absurd (p10_le q) (by omega)
theorem dig_9 {f : Nat → Int32} {y j : Nat} (hf : DigI f y) (hd : 10 ^ j ∣ y) (h9 : dt y j = 9) : DigI (upd f j (iZ ((0 : Nat) : Int))) (y - 9 * 10 ^ j) := by
  refine ⟨fun q hq => ?_, Nat.lt_of_le_of_lt (Nat.sub_le _ _) hf.2⟩
  rw [dt_sub9 hd h9]
  by_cases e : q = j
  · subst e; rw [pk_us, if_pos rfl]
  · rw [pk_un e, if_neg e]; exact hf.1 q hq
theorem dig_1 {f : Nat → Int32} {y j : Nat} (hf : DigI f y) (hd : 10 ^ j ∣ y) (h9 : ¬ dt y j = 9) (hl : y + 10 ^ j < 10 ^ 1404) : DigI (upd f j (iZ ((dt y j + 1 : Nat) : Int))) (y + 10 ^ j) := by
  refine ⟨fun q hq => ?_, hl⟩
  rw [dt_add1 hd h9]
  by_cases e : q = j
  · subst e; rw [pk_us, if_pos rfl]
  · rw [pk_un e, if_neg e]; exact hf.1 q hq
