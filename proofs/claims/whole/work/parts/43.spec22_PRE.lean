/-! the reference: the shortest decimal, its paper -/
def lkM (me mf : Nat) : Nat := if mf = 0 ∧ 1 < me then 1 else 2
theorem lkM_le (me mf : Nat) : 1 ≤ lkM me mf ∧ lkM me mf ≤ 2 := by unfold lkM; split <;> omega
def fitN (v vl vh : Nat) (ev : Bool) (n : Nat) : Bool := rbP (ctN v (nfig v - n) false) vl vh ev || rbP (ctN v (nfig v - n) true) vl vh ev
def lLn (v vl vh : Nat) (ev : Bool) : Nat → Nat → Nat
  | _, 0 => 17
  | n, k + 1 => if fitN v vl vh ev n = true then n else lLn v vl vh ev (n + 1) k
theorem lLn_in (v vl vh : Nat) (ev : Bool) : ∀ k n, 1 ≤ n → n + k = 17 → 1 ≤ lLn v vl vh ev n k ∧ lLn v vl vh ev n k ≤ 17 := by
  intro k
  induction k with
  | zero => intro n _ _; rw [lLn]; exact ⟨by decide, by decide⟩
  | succ k ih =>
    intro n h1 h2
    rw [lLn]
    split
    · omega
    · exact ih (n + 1) (by omega) (by omega)
def nLn (v vl vh : Nat) (ev : Bool) : Nat := if lLn v vl vh ev 1 16 = 1 then 2 else lLn v vl vh ev 1 16
theorem nLn_in (v vl vh : Nat) (ev : Bool) : 2 ≤ nLn v vl vh ev ∧ nLn v vl vh ev ≤ 17 := by
  have := lLn_in v vl vh ev 16 1 (by decide) (by decide)
  unfold nLn
  split <;> omega
def lpN (v vl vh : Nat) (ev : Bool) : Nat := nfig v - nLn v vl vh ev
def moN (v vl vh : Nat) (ev : Bool) : Bool := rbP (ctN v (lpN v vl vh ev) true) vl vh ev && (!rbP (ctN v (lpN v vl vh ev) false) vl vh ev || decide (0 < haF v (lpN v vl vh ev)) || (decide (haF v (lpN v vl vh ev) = 0) && decide (dt v (lpN v vl vh ev) % 2 = 1)))
def c0N (v vl vh : Nat) (ev : Bool) : Nat := (if moN v vl vh ev = true then 1 else 0) + v / 10 ^ lpN v vl vh ev
def msD (v vl vh : Nat) (ev : Bool) : Nat × Int := drZ 18 (c0N v vl vh ev) ((lpN v vl vh ev : Nat) : Int)
theorem c0N_in {v vl vh : Nat} {ev : Bool} (h : 17 ≤ nfig v) (hv : 0 < v) : 0 < c0N v vl vh ev ∧ c0N v vl vh ev ≤ 100000000000000000 ∧ v / 10 ^ lpN v vl vh ev < 10 ^ nLn v vl vh ev := by
  obtain ⟨d, e1, e2, e3⟩ := nfig_pos hv
  have hn := nLn_in v vl vh ev
  have h1 : v / 10 ^ lpN v vl vh ev < 10 ^ nLn v vl vh ev := by
    rw [Nat.div_lt_iff_lt_mul (Nat.pow_pos (by decide)), ← Nat.pow_add]
    unfold lpN
    rw [show nLn v vl vh ev + (nfig v - nLn v vl vh ev) = d + 1 by omega]
    exact e3
  have h2 : 0 < v / 10 ^ lpN v vl vh ev := Nat.div_pos (Nat.le_trans (p10_le (by unfold lpN; omega)) e2) (Nat.pow_pos (by decide))
  have h3 : 10 ^ nLn v vl vh ev ≤ 10 ^ 17 := p10_le hn.2
  have h4 : (10 : Nat) ^ 17 = 100000000000000000 := rfl
  unfold c0N
  refine ⟨by omega, ?_, h1⟩
  split <;> omega
theorem c0_step (x i : Nat) : x % 10 ^ i + 10 ^ i * (x / 10 ^ i % 10) = x % 10 ^ (i + 1) := by rw [Nat.pow_succ, Nat.mod_mul]
theorem dt_off (v k i : Nat) : dt v (k + i) = v / 10 ^ k / 10 ^ i % 10 := by unfold dt; rw [Nat.pow_add, Nat.div_div_eq_div_mul]
theorem cut_room {v k : Nat} (h : v < 10 ^ 1403) (hk : k < nfig v) (hv : 0 < v) : v + 10 ^ k < 10 ^ 1404 ∧ k < 1404 := by
  obtain ⟨d, e1, e2, e3⟩ := nfig_pos hv
  have h1 : 10 ^ k ≤ 10 ^ d := p10_le (by omega)
  have h2 : 10 ^ d * 1 ≤ 10 ^ 1403 := by omega
  have h3 : (10 : Nat) ^ 1404 = 10 ^ 1403 * 10 := Nat.pow_succ ..
  have h4 : nfig v ≤ 1403 := nfig_le h
  generalize (10 : Nat) ^ 1403 = P at *
  exact ⟨by omega, by omega⟩
def MPap (g : Nat → Int32) (t : List Nat) : Prop := t.length ≤ 1600 ∧ (∀ j, j < t.length → g j = iZ ((t.getD j 0 : Nat) : Int)) ∧ ∀ x ∈ t, x < 128
theorem mpap_put {g : Nat → Int32} {t : List Nat} {x : Nat} (h : MPap g t) (hl : t.length < 1600) (hx : x < 128) : MPap (upd g t.length (iZ ((x : Nat) : Int))) (t ++ [x]) := by
  obtain ⟨-, h2, h3⟩ := h
  refine ⟨by rw [List.length_append]; simp; omega, fun j hj => ?_, fun y hy => ?_⟩
  · rw [List.length_append] at hj
    by_cases q : j = t.length
    · subst q
      rw [pk_us]
      simp
    · rw [pk_un q, h2 j (by simp at hj; omega)]
      have : j < t.length := by simp at hj; omega
      rw [List.getD_eq_getElem?_getD, List.getD_eq_getElem?_getD, List.getElem?_append_left this]
  · rcases List.mem_append.mp hy with q | q
    · exact h3 y q
    · have : y = x := by simpa using q
      omega
theorem mpap_nil (g : Nat → Int32) : MPap g [] := ⟨by decide, fun j h => absurd h (Nat.not_lt_zero j), fun x h => by cases h⟩
def mgT (ng : Bool) : List Nat := if ng = true then [45] else []
theorem mgT_len (ng : Bool) : (mgT ng).length ≤ 1 := by cases ng <;> decide
theorem sgT_mg (b : Nat) (nw : Bool) : sgT b nw = mgT (fN b nw) := by
  unfold sgT mgT fN
  by_cases q : b / fS nw % 2 = 1
  · rw [if_pos q, if_pos (decide_eq_true q)]
  · rw [if_neg q, if_neg (fun z => q (of_decide_eq_true z))]
def nmT (ng : Bool) (mf : Nat) : List Nat := if mf = 0 then mgT ng ++ txB.getD 4 [] else txB.getD 3 []
theorem word_ok : ∀ k, k < 8 → (8751735898823355977 / 2 ^ (8 * k)) &&& 255 = (txB.getD 4 []).getD k 0 ∧ (txB.getD 4 []).getD k 0 < 128 := by decide +kernel
theorem nfig_div {v i : Nat} (h1 : 0 < v / 10 ^ i) (h2 : v / 10 ^ i ≤ 9) : nfig v = i + 1 := by
  refine nfig_of ?_ ?_
  · rcases Nat.lt_or_ge v (10 ^ i) with q | q
    · rw [Nat.div_eq_of_lt q] at h1; omega
    · exact q
  · have : v / 10 ^ i < 10 := by omega
    rw [Nat.div_lt_iff_lt_mul (Nat.pow_pos (by decide))] at this
    rw [Nat.pow_succ, Nat.mul_comm]; exact this
theorem numQ_nil {n i : Nat} (hn : n < 10 ^ (i + 1)) : ∀ j, i + j ≤ 3 → numQ n j = [] := by
  intro j
  induction j with
  | zero => intro _; rfl
  | succ j ih =>
    intro h
    rw [numQ, ih (by omega), if_neg]
    · rfl
    · rw [Nat.div_eq_of_lt (Nat.lt_of_lt_of_le hn (p10_le (by omega)))]; omega
def mrB (v k w : Nat) : Bool := if v % 10 ^ k = 0 ∨ w = 0 then false else decide (w = 1 ∨ 0 < haF v k ∨ (haF v k = 0 ∧ (w = 2 ∨ dt v k % 2 = 1)))
theorem figAt_dt {v : Nat} {z : Int} {j : Nat} (h : z = (j : Int)) : figAt v z = dt v j := by
  unfold figAt dt
  rw [if_neg (by omega), h]
  rfl
theorem uN_ge {z : Int} (h : -1076 ≤ z) : 100000000000000000 ≤ uN z := by
  unfold uN
  rw [Nat.le_div_iff_mul_le (Nat.pow_pos (by decide))]
  have h1 : 2 ^ (-z).toNat ≤ 2 ^ 1076 := Nat.pow_le_pow_right (by decide) (by omega)
  have h2 : 100000000000000000 * 2 ^ 1076 ≤ bigO := by unfold bigO; decide +kernel
  have h3 : bigO * 1 ≤ bigO * 2 ^ z.toNat := Nat.mul_le_mul_left _ (Nat.pow_pos (by decide))
  have h4 := Nat.mul_le_mul_left 100000000000000000 h1
  generalize bigO * 2 ^ z.toNat = P at *
  generalize (2 : Nat) ^ (-z).toNat = Q at *
  generalize (2 : Nat) ^ 1076 = Q2 at *
  omega
theorem moV_pos {ms : Nat} {mt : Int} (h : -1074 ≤ mt ∧ mt ≤ 971) (h0 : 0 < ms) : 0 < 4 * ms * uN (mt - 2) := Nat.mul_pos (by omega) (Nat.lt_of_lt_of_le (by decide) (uN_ge (z := mt - 2) (by omega)))
theorem moV_big : 36028797018963968 * (bigO * 2 ^ 971) < 10 ^ 1403 := by unfold bigO; decide +kernel
theorem moV_lt {ms : Nat} {mt : Int} (h : mt ≤ 971) (h0 : ms < 9007199254740992) : 4 * ms * uN (mt - 2) < 10 ^ 1403 := by
  have h1 : uN (mt - 2) ≤ bigO * 2 ^ 971 := Nat.le_trans (Nat.div_le_self _ _) (Nat.mul_le_mul_left _ (Nat.pow_le_pow_right (by decide) (by omega)))
  exact Nat.lt_of_le_of_lt (Nat.mul_le_mul (show 4 * ms ≤ 36028797018963968 by omega) h1) moV_big
theorem nfig_ge {v n : Nat} (h : 10 ^ n ≤ v) : n + 1 ≤ nfig v := by
  have hv : 0 < v := Nat.lt_of_lt_of_le (Nat.pow_pos (by decide)) h
  obtain ⟨d, e1, e2, e3⟩ := nfig_pos hv
  rcases Nat.lt_or_ge d n with q | q
  · exact absurd (Nat.lt_of_le_of_lt h e3) (Nat.not_lt.mpr (p10_le q))
  · omega
theorem moV_fig {ms : Nat} {mt : Int} (h : -1074 ≤ mt ∧ mt ≤ 971) (h0 : 0 < ms) : 17 ≤ nfig (4 * ms * uN (mt - 2)) := by
  have h1 := uN_ge (z := mt - 2) (by omega)
  have h2 : 1 * uN (mt - 2) ≤ 4 * ms * uN (mt - 2) := Nat.mul_le_mul_right _ (by omega)
  refine Nat.le_trans (by decide) (nfig_ge (n := 17) ?_)
  show 100000000000000000 ≤ _
  omega
theorem drz_stop {x : Nat × Int} {i c2 : Nat} {t2 : Int} (h : x = drZ (18 - i) c2 t2) (hc : ¬ c2 % 10 = 0) : x = (c2, t2) := by
  rw [h]
  cases e : 18 - i with
  | zero => rfl
  | succ k => rw [drZ, if_neg hc]
theorem drz_go {x : Nat × Int} {i c2 : Nat} {t2 : Int} (h : x = drZ (18 - i) c2 t2) (hc : c2 % 10 = 0) (hi : i < 18) : x = drZ (18 - (i + 1)) (c2 / 10) (t2 + 1) := by
  rw [h, show 18 - i = (18 - (i + 1)) + 1 by omega, drZ, if_pos hc]
theorem drz_i {c2 i x : Nat} (h : c2 * 10 ^ i = x) (hx : x ≤ 100000000000000000) (hc : c2 % 10 = 0) (h0 : 0 < c2) : i < 18 := by
  rcases Nat.lt_or_ge i 18 with q | q
  · exact q
  · have h1 : 10 ^ 18 ≤ 10 ^ i := p10_le q
    have h2 : 1 * 10 ^ i ≤ c2 * 10 ^ i := Nat.mul_le_mul_right _ h0
    have h3 : (10 : Nat) ^ 18 = 1000000000000000000 := rfl
    omega
