theorem num_in {n : Nat} {d : Nat} (h : n < 10000) : 0 ≤ ((n / d : Nat) : Int) ∧ ((n / d : Nat) : Int) < 2147483648 := by
  have h1 := Nat.div_le_self n d
  generalize n / d = y at *
  omega
theorem num_in2 {n : Nat} {d : Nat} (h : n < 10000) : -2147483648 ≤ ((n / d : Nat) : Int) ∧ ((n / d : Nat) : Int) < 2147483648 := by have := num_in (d := d) h; omega
theorem nat_in {x : Nat} (h : x ≤ 1000) : -2147483648 ≤ ((x : Nat) : Int) ∧ ((x : Nat) : Int) < 2147483648 := by omega
theorem num_i {n i : Nat} (hn : n < 10000) (h : 9 < n / 10 ^ i) (hi : i ≤ 3) : i + 1 ≤ 3 := by
  rcases Nat.lt_or_ge i 3 with q | q
  · omega
  · obtain rfl : i = 3 := by omega
    rw [show (10 : Nat) ^ 3 = 1000 from rfl] at h
    omega
theorem num_9 {n i : Nat} (h : n / 10 ^ i ≤ 9) : n < 10 ^ (i + 1) := by
  have h1 : n / 10 ^ i < 10 := by omega
  rw [Nat.div_lt_iff_lt_mul (Nat.pow_pos (by decide))] at h1
  rw [Nat.pow_succ, Nat.mul_comm]; exact h1
theorem ten_j : ∀ {j : Nat}, j ≤ 4 → 10 ^ (4 - j) / 10 ≤ 1000 := by
  intro j h
  have h1 : 10 ^ (4 - j) ≤ 10 ^ 4 := p10_le (by omega)
  have h2 : (10 : Nat) ^ 4 = 10000 := rfl
  omega
theorem ten_at {j : Nat} (h : j < 4) : 10 ^ (4 - j) / 10 = 10 ^ (3 - j) := by rw [show 4 - j = (3 - j) + 1 by omega, Nat.pow_succ, Nat.mul_div_cancel _ (by decide)]
theorem ten_0 {j : Nat} (h : j ≤ 4) (h0 : ((10 ^ (4 - j) / 10 : Nat) : Int) ≤ 0) : j = 4 := by
  rcases Nat.lt_or_ge j 4 with q | q
  · rw [ten_at q] at h0
    have := Nat.pow_pos (n := 3 - j) (show 0 < 10 by decide)
    omega
  · omega
theorem ten_l {j : Nat} (h : j ≤ 4) (h0 : 0 < ((10 ^ (4 - j) / 10 : Nat) : Int)) : j < 4 := by
  rcases Nat.lt_or_ge j 4 with q | q
  · exact q
  · obtain rfl : j = 4 := by omega
    exact absurd h0 (by decide)
theorem ten_div (n : Nat) {j : Nat} (h : j < 4) : ((n : Nat) : Int) / ((10 ^ (4 - j) / 10 : Nat) : Int) = ((n / 10 ^ (3 - j) : Nat) : Int) := by rw [ten_at h]; rfl
theorem ten_next {j : Nat} (h : j < 4) : ((10 ^ (4 - j) / 10 : Nat) : Int) / 10 = ((10 ^ (4 - (j + 1)) / 10 : Nat) : Int) := by rw [ten_at h, show 4 - (j + 1) = 3 - j by omega]; rfl
theorem num_lo {n j : Nat} (h : j = 4 ∨ 3 - j = 0 ∨ 0 < n / 10 ^ (3 - j)) (hj : j < 4) : j + 1 = 4 ∨ 3 - (j + 1) = 0 ∨ 0 < n / 10 ^ (3 - (j + 1)) := by
  rcases h with q | q | q
  · omega
  · exact Or.inl (by omega)
  · rcases Nat.lt_or_ge j 3 with z | z
    · refine Or.inr (Or.inr (Nat.lt_of_lt_of_le q (Nat.div_le_div_left (p10_le (by omega)) (Nat.pow_pos (by decide)))))
    · exact Or.inl (by omega)
theorem num_go {n i : Nat} (h : i = 0 ∨ 0 < n / 10 ^ i) (hi : i ≤ 3) : 3 - i = 4 ∨ 3 - (3 - i) = 0 ∨ 0 < n / 10 ^ (3 - (3 - i)) := by
  rcases h with q | q
  · exact Or.inr (Or.inl (by omega))
  · exact Or.inr (Or.inr (by rw [show 3 - (3 - i) = i by omega]; exact q))
theorem fig_end {q i : Nat} {x : Int} (h1 : (i : Int) ≤ x) (h2 : x ≤ i ∨ q / 10 ^ i = 0) : q / 10 ^ i % 10 = figAt q x := by
  unfold figAt
  rw [if_neg (by omega)]
  rcases h2 with z | z
  · rw [show x.toNat = i by omega]
  · have h3 : q < 10 ^ i := lt_of_div0 (Nat.pow_pos (by decide)) z
    rw [z, Nat.div_eq_of_lt (Nat.lt_of_lt_of_le h3 (p10_le (show i ≤ x.toNat by omega)))]
