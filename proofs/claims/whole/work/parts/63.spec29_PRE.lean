/-! what is shown by text: lists from a place down -/
theorem dn_split (G : Int → List Nat) (hi : Int) (a : Nat) : ∀ b : Nat, dnT G hi (a + b) = dnT G hi a ++ dnT G (hi - (a : Int)) b
  | 0 => by simp [dnT]
  | b + 1 => by
    show dnT G hi (a + b) ++ G (hi - ((a + b : Nat) : Int)) = dnT G hi a ++ (dnT G (hi - (a : Int)) b ++ G (hi - (a : Int) - (b : Int)))
    rw [dn_split G hi a b, List.append_assoc]
    congr 3
    omega
theorem dn_congr {G G' : Int → List Nat} {hi hi' : Int} : ∀ n : Nat, (∀ i : Nat, i < n → G (hi - (i : Int)) = G' (hi' - (i : Int))) → dnT G hi n = dnT G' hi' n
  | 0, _ => rfl
  | n + 1, h => by
    show dnT G hi n ++ G (hi - (n : Int)) = dnT G' hi' n ++ G' (hi' - (n : Int))
    rw [dn_congr n (fun i hi => h i (by omega)), h n (by omega)]
theorem dn_one (G : Int → List Nat) (hi : Int) : dnT G hi 1 = G hi := by
  show [] ++ G (hi - ((0 : Nat) : Int)) = G hi
  rw [List.nil_append]
  congr 1
  omega
theorem dn_cons (G : Int → List Nat) (hi : Int) (k : Nat) : dnT G hi (k + 1) = G hi ++ dnT G (hi - 1) k := by
  rw [Nat.add_comm, dn_split, dn_one]
  rfl
/-! times ten to k -/
theorem tp (k : Nat) : 0 < 10 ^ k := Nat.pow_pos (by decide)
theorem sc_div (v m k : Nat) : v * 10 ^ k / 10 ^ (m + k) = v / 10 ^ m := by
  rw [Nat.pow_add, Nat.mul_div_mul_right _ _ (tp k)]
theorem sc_mod (v m k : Nat) : v * 10 ^ k % 10 ^ (m + k) = v % 10 ^ m * 10 ^ k := by
  rw [Nat.pow_add, Nat.mul_mod_mul_right]
theorem sc_lo {v j k : Nat} (h : j < k) : v * 10 ^ k / 10 ^ j % 10 = 0 := by
  have e : v * 10 ^ k = v * 10 ^ (k - 1 - j) * 10 * 10 ^ j := by
    rw [Nat.mul_assoc, Nat.mul_assoc, ← Nat.pow_succ', ← Nat.pow_add]
    congr 2
    omega
  rw [e, Nat.mul_div_cancel _ (tp j), Nat.mul_mod_left]
theorem sc_lo0 {v j k : Nat} (h : j ≤ k) : v * 10 ^ k % 10 ^ j = 0 := by
  have e : v * 10 ^ k = v * 10 ^ (k - j) * 10 ^ j := by
    rw [Nat.mul_assoc, ← Nat.pow_add]
    congr 2
    omega
  rw [e, Nat.mul_mod_left]
theorem sc_fig (v k : Nat) (z : Int) : figAt (v * 10 ^ k) (z + (k : Int)) = figAt v z := by
  unfold figAt
  by_cases h : z < 0
  · rw [if_pos h]
    by_cases h2 : z + (k : Int) < 0
    · rw [if_pos h2]
    · rw [if_neg h2]
      exact sc_lo (by omega)
  · rw [if_neg h, if_neg (by omega), show (z + (k : Int)).toNat = z.toNat + k by omega, sc_div]
theorem sc_dt (v m k : Nat) : dt (v * 10 ^ k) (m + k) = dt v m := by
  unfold dt
  rw [sc_div]
theorem sc_nfig {v : Nat} (h : 0 < v) (k : Nat) : nfig (v * 10 ^ k) = nfig v + k := by
  obtain ⟨d, e, h1, h2⟩ := nfig_pos h
  rw [e, show d + 1 + k = (d + k) + 1 by omega]
  refine nfig_of ?_ ?_
  · rw [Nat.pow_add]
    exact Nat.mul_le_mul_right _ h1
  · rw [show d + k + 1 = d + 1 + k by omega, Nat.pow_add]
    exact Nat.mul_lt_mul_of_pos_right h2 (tp k)
theorem nf_div (v k : Nat) : nfig (v / 10 ^ k) = nfig v - k := by
  by_cases h0 : v = 0
  · subst h0
    rw [Nat.zero_div, nfig_0, Nat.zero_sub]
  obtain ⟨d, e, h1, h2⟩ := nfig_pos (Nat.pos_of_ne_zero h0)
  by_cases h : k ≤ d
  · rw [e, show d + 1 - k = (d - k) + 1 by omega]
    refine nfig_of ?_ ?_
    · rw [Nat.le_div_iff_mul_le (tp k), ← Nat.pow_add, show d - k + k = d by omega]
      exact h1
    · rw [Nat.div_lt_iff_lt_mul (tp k), ← Nat.pow_add, show d - k + 1 + k = d + 1 by omega]
      exact h2
  · rw [Nat.div_eq_of_lt (Nat.lt_of_lt_of_le h2 (p10_le (by omega))), nfig_0]
    omega
/-! the way up -/
theorem ha_cmp {v k : Nat} (hk : 0 < k) : (0 < haF v k ↔ 10 ^ k < 2 * (v % 10 ^ k)) ∧ (haF v k = 0 ↔ 10 ^ k = 2 * (v % 10 ^ k)) := by
  obtain ⟨m, rfl⟩ : ∃ m, k = m + 1 := ⟨k - 1, by omega⟩
  have hm := mod_dt v m
  have hl := Nat.mod_lt v (tp m)
  have hd := dt_lt v m
  have hp : 10 ^ (m + 1) = 10 * 10 ^ m := by rw [Nat.pow_succ, Nat.mul_comm]
  generalize hT : 10 ^ (m + 1) = T at *
  generalize hP : 10 ^ m = P at *
  generalize hR : v % P = r at *
  generalize hX : v % T = x at *
  generalize hD : dt v m = d at *
  unfold haF
  rw [Nat.add_sub_cancel, hD, hP, hR]
  have h5 : d = 0 ∨ d = 1 ∨ d = 2 ∨ d = 3 ∨ d = 4 ∨ d = 5 ∨ d = 6 ∨ d = 7 ∨ d = 8 ∨ d = 9 := by omega
  rcases h5 with h | h | h | h | h | h | h | h | h | h <;> subst h <;> simp <;> (try split) <;> omega
theorem up_mr {v k w : Nat} (hk : 0 < k) (hw : w ≤ 3) : upB v k w = mrB v k w := by
  obtain ⟨m, rfl⟩ : ∃ m, k = m + 1 := ⟨k - 1, by omega⟩
  have hd := dt_lt v m
  have e1 : figAt v (((m + 1 : Nat) : Int) - 1) = dt v m := figAt_dt (by omega)
  have e2 : figAt v ((m + 1 : Nat) : Int) = dt v (m + 1) := figAt_dt rfl
  have hz : v % 10 ^ (m + 1) = 0 ↔ v % 10 ^ m = 0 ∧ dt v m = 0 := by
    have hm := mod_dt v m
    constructor
    · intro h
      rw [h] at hm
      have : 10 ^ m * dt v m = 0 := by omega
      rcases Nat.mul_eq_zero.mp this with h1 | h1
      · have := tp m
        omega
      · exact ⟨by omega, h1⟩
    · intro h
      rw [hm, h.1, h.2, Nat.mul_zero]
  unfold upB mrB haF
  rw [e1, e2, Nat.add_sub_cancel]
  by_cases h0 : v % 10 ^ (m + 1) = 0
  · have := hz.mp h0
    rw [if_pos (Or.inl h0), this.2]
    simp [h0]
  · rcases (show w = 0 ∨ w = 1 ∨ w = 2 ∨ w = 3 by omega) with h | h | h | h <;> subst h <;> simp [h0] <;> by_cases h5 : dt v m = 5 <;> (try simp [h5]) <;> by_cases h6 : v % 10 ^ m = 0 <;> (try simp [h6]) <;> by_cases h7 : 5 < dt v m <;> (try simp [h7])
def upZ (v : Nat) (z : Int) (w : Nat) : Bool := decide (0 < z) && mrB v z.toNat w
theorem mr_0 {v k w : Nat} (h : v % 10 ^ k = 0) : mrB v k w = false := by
  unfold mrB
  rw [if_pos (Or.inl h)]
theorem sc_ha {v m k : Nat} (h : 0 < m) : haF (v * 10 ^ k) (m + k) = haF v m := by
  unfold haF
  rw [show m + k - 1 = m - 1 + k by omega, sc_dt, sc_mod]
  have e : (v % 10 ^ (m - 1) * 10 ^ k = 0) = (v % 10 ^ (m - 1) = 0) := by
    apply propext
    rw [Nat.mul_eq_zero]
    have := tp k
    omega
  have e1 : (m + k = 0) = (m = 0) := by apply propext; omega
  have e2 : (0 < m + k) = (0 < m) := by apply propext; omega
  simp only [e, e1, e2]
theorem sc_mr {v m k w : Nat} (h : 0 < m) : mrB (v * 10 ^ k) (m + k) w = mrB v m w := by
  unfold mrB
  rw [sc_mod, sc_ha h, sc_dt]
  have e : (v % 10 ^ m * 10 ^ k = 0) = (v % 10 ^ m = 0) := by
    apply propext
    rw [Nat.mul_eq_zero]
    have := tp k
    omega
  simp only [e]
theorem sc_up (v k w : Nat) (z : Int) : upZ (v * 10 ^ k) (z + (k : Int)) w = upZ v z w := by
  unfold upZ
  by_cases h : 0 < z
  · rw [show (z + (k : Int)).toNat = z.toNat + k by omega, sc_mr (by omega)]
    simp [h]
    omega
  · rw [show decide (0 < z) = false by simp [h], Bool.false_and, mr_0, Bool.and_false]
    exact sc_lo0 (by omega)
theorem up_k0 (v k w : Nat) : mrB v k w = upZ v (k : Int) w := by
  unfold upZ
  by_cases h : k = 0
  · subst h
    rw [mr_0 (by rw [Nat.pow_zero, Nat.mod_one])]
    rfl
  · simp
    intro h2
    omega
theorem up_neg {v w : Nat} {z : Int} (h : z ≤ 0) : upZ v z w = false := by
  unfold upZ
  simp
  omega
def rnZ (v : Nat) (z : Int) (w : Nat) : Nat := if upZ v z w = true then v + 10 ^ z.toNat else v
theorem rn_rnd (v : Nat) (z : Int) {w : Nat} (hw : w ≤ 3) : rnd v z w = rnZ v z w := by
  unfold rnd rnZ upZ
  by_cases h : 0 < z
  · rw [up_mr (by omega) hw]
    simp [h]
  · simp [h]
theorem sc_rn (v k w : Nat) (z : Int) : rnZ (v * 10 ^ k) (z + (k : Int)) w = rnZ v z w * 10 ^ k := by
  unfold rnZ
  rw [sc_up]
  by_cases h : upZ v z w = true
  · have hz : 0 < z := by
      by_cases h0 : 0 < z
      · exact h0
      · rw [up_neg (by omega)] at h
        cases h
    rw [if_pos h, if_pos h, show (z + (k : Int)).toNat = z.toNat + k by omega, Nat.pow_add, Nat.add_mul]
  · rw [if_neg h, if_neg h]
/-- the cut value has the same figures from its place on -/
theorem ct_div {v k y : Nat} {w : Nat} (h : k ≤ y) : ctN v k (mrB v k w) / 10 ^ y = rnZ v (k : Int) w / 10 ^ y := by
  have e : ∀ x : Nat, x / 10 ^ y = x / 10 ^ k / 10 ^ (y - k) := fun x => by
    rw [Nat.div_div_eq_div_mul, ← Nat.pow_add, show k + (y - k) = y by omega]
  rw [e, e (rnZ _ _ _)]
  congr 1
  unfold ctN rnZ
  rw [up_k0]
  have hb : v - v % 10 ^ k = 10 ^ k * (v / 10 ^ k) := by have := Nat.div_add_mod v (10 ^ k); omega
  by_cases hu : upZ v (k : Int) w = true
  · rw [if_pos hu, if_pos hu, hb, Int.toNat_natCast, Nat.add_div_right _ (tp k), Nat.add_div_right _ (tp k), Nat.mul_div_cancel_left _ (tp k)]
  · rw [if_neg hu, if_neg hu, hb, Nat.add_zero, Nat.mul_div_cancel_left _ (tp k)]
theorem ct_fig {v k w : Nat} {y : Int} (h : (k : Int) ≤ y) : figAt (ctN v k (mrB v k w)) y = figAt (rnZ v (k : Int) w) y := by
  unfold figAt
  rw [if_neg (by omega), if_neg (by omega), ct_div (by omega)]
/-! one value in two scales: V is S over ten to D -/
def RK (V S : Nat) (D : Int) : Prop := ∃ k : Nat, (D = (k : Int) ∧ S = V * 10 ^ k) ∨ (D = -(k : Int) ∧ V = S * 10 ^ k)
theorem RK.fig {V S : Nat} {D : Int} (h : RK V S D) (z : Int) : figAt V z = figAt S (z + D) := by
  obtain ⟨k, ⟨hd, e⟩ | ⟨hd, e⟩⟩ := h
  · rw [e, hd, sc_fig]
  · rw [e, hd, show z = (z + -(k : Int)) + (k : Int) by omega, sc_fig]
    congr 1
    omega
theorem RK.pos {V S : Nat} {D : Int} (h : RK V S D) : 0 < V ↔ 0 < S := by
  obtain ⟨k, ⟨hd, e⟩ | ⟨hd, e⟩⟩ := h
  · rw [e, Nat.mul_pos_iff_of_pos_right (tp k)]
  · rw [e, Nat.mul_pos_iff_of_pos_right (tp k)]
theorem RK.nf {V S : Nat} {D : Int} (h : RK V S D) (h0 : 0 < V) : (nfig S : Int) = (nfig V : Int) + D := by
  have h1 := h.pos.mp h0
  obtain ⟨k, ⟨hd, e⟩ | ⟨hd, e⟩⟩ := h
  · rw [e, hd, sc_nfig h0]
    omega
  · rw [e, hd, sc_nfig h1]
    omega
theorem RK.rn {V S : Nat} {D : Int} (h : RK V S D) (z : Int) (w : Nat) : RK (rnZ V z w) (rnZ S (z + D) w) D := by
  obtain ⟨k, ⟨hd, e⟩ | ⟨hd, e⟩⟩ := h
  · exact ⟨k, Or.inl ⟨hd, by rw [e, hd, sc_rn]⟩⟩
  · refine ⟨k, Or.inr ⟨hd, ?_⟩⟩
    rw [e, hd, ← sc_rn]
    congr 1
    omega
theorem RK.mul {V S : Nat} {D : Int} (h : RK V S D) (c : Nat) : RK (V * c) (S * c) D := by
  obtain ⟨k, ⟨hd, e⟩ | ⟨hd, e⟩⟩ := h
  · exact ⟨k, Or.inl ⟨hd, by rw [e, Nat.mul_right_comm]⟩⟩
  · exact ⟨k, Or.inr ⟨hd, by rw [e, Nat.mul_right_comm]⟩⟩
theorem app2 {a a' b b' : List Nat} (h1 : a = a') (h2 : b = b') : a ++ b = a' ++ b' := by rw [h1, h2]
/-! lists with a point -/
theorem dn_pt (v : Nat) (o hi : Int) (n : Nat) : dnT (ptG v o hi) hi (n + 1) = [46] ++ dnT (fgG v o) hi (n + 1) := by
  rw [dn_cons, dn_cons]
  have e : dnT (ptG v o hi) (hi - 1) n = dnT (fgG v o) (hi - 1) n := dn_congr n (fun i _ => by
    unfold ptG fgG
    rw [if_neg (by omega), List.nil_append])
  rw [e]
  unfold ptG fgG
  rw [if_pos rfl, List.append_assoc]
theorem dn_nopt {v : Nat} {o pt hi : Int} {n : Nat} (h : pt < hi - (n : Int) + 1 ∨ hi < pt) : dnT (ptG v o pt) hi n = dnT (fgG v o) hi n := dn_congr n (fun i hi => by
    unfold ptG fgG
    rw [if_neg (by omega), List.nil_append])
theorem dn_sci {v v' fg : Nat} {hi hi' : Int} (h1 : 1 ≤ fg) (h : ∀ i : Nat, i < fg → figAt v (hi - (i : Int)) = figAt v' (hi' - (i : Int) + 1080)) : dnT (ptG v 0 (hi - 1)) hi fg = dnT (figS v' fg hi') hi' fg := by
  obtain ⟨f, rfl⟩ : ∃ f, fg = f + 1 := ⟨fg - 1, by omega⟩
  rw [dn_cons, dn_cons]
  have e0 : ptG v 0 (hi - 1) hi = [chr (figAt v hi)] := by
    unfold ptG
    rw [if_neg (by omega), List.nil_append, Int.sub_zero]
  have e1 : figS v' (f + 1) hi' hi' = [chr (figAt v hi)] ++ (if 1 < f + 1 then [46] else []) := by
    have := h 0 (by omega)
    simp at this
    unfold figS
    rw [this]
    simp
  have e2 : dnT (figS v' (f + 1) hi') (hi' - 1) f = dnT (fgG v 0) (hi - 1) f := dn_congr f (fun i hi0 => by
    unfold figS fgG
    rw [if_neg (by omega), List.append_nil]
    have := h (i + 1) (by omega)
    rw [show hi' - 1 - (i : Int) + 1080 = hi' - ((i + 1 : Nat) : Int) + 1080 by omega, ← this]
    congr 3
    omega)
  rw [e0, e1, e2]
  cases f with
  | zero => rfl
  | succ g =>
    rw [dn_pt, if_pos (by omega), List.append_assoc]
theorem sg_mg (b : Nat) (nw : Bool) : sgT b nw = mgT (fN b nw) := by
  unfold sgT mgT fN
  simp
/-! the two scales of a number -/
theorem bigO_10 : bigO = 10 ^ 1080 := by
  unfold bigO
  rw [show (1000000000 : Nat) = 10 ^ 9 from rfl, ← Nat.pow_mul]
theorem uN_ex {z : Int} (h : -1080 ≤ z) : uN z * 2 ^ (-z).toNat = 10 ^ 1080 * 2 ^ z.toNat := by
  unfold uN
  rw [bigO_10]
  refine Nat.div_mul_cancel (Nat.dvd_trans ?_ (Nat.dvd_mul_right _ _))
  rw [show (10 : Nat) = 2 * 5 from rfl, Nat.mul_pow]
  exact Nat.dvd_trans (Nat.pow_dvd_pow 2 (by omega)) (Nat.dvd_mul_right _ _)
theorem uN_4 {z : Int} (h : -1078 ≤ z) : uN z = 4 * uN (z - 2) := by
  have h1 := uN_ex (z := z) (by omega)
  have h2 := uN_ex (z := z - 2) (by omega)
  generalize uN z = x at *
  generalize uN (z - 2) = y at *
  generalize hB : 10 ^ 1080 = B at *
  by_cases hz : z ≤ 0
  · rw [show z.toNat = 0 by omega] at h1
    rw [show (z - 2).toNat = 0 by omega, show (-(z - 2)).toNat = (-z).toNat + 2 by omega, Nat.pow_add] at h2
    have hp : 0 < 2 ^ (-z).toNat := Nat.pow_pos (by decide)
    generalize 2 ^ (-z).toNat = P at *
    apply Nat.eq_of_mul_eq_mul_right hp
    rw [h1, ← h2, show (2 : Nat) ^ 2 = 4 from rfl, Nat.mul_comm P 4, ← Nat.mul_assoc, Nat.mul_comm y 4]
  · by_cases hz1 : z = 1
    · subst hz1
      simp at h1 h2
      omega
    · rw [show (-z).toNat = 0 by omega, show z.toNat = (z - 2).toNat + 2 by omega, Nat.pow_add] at h1
      rw [show (-(z - 2)).toNat = 0 by omega] at h2
      rw [Nat.pow_zero, Nat.mul_one] at h1 h2
      rw [h1, h2, ← Nat.mul_assoc, Nat.mul_comm]
theorem mW_mV (b : Nat) (nw : Bool) : mW b nw = mV b nw := by
  unfold mW mV
  rw [uN_4 (by have := (fW_in b nw).1; omega), ← Nat.mul_assoc, Nat.mul_comm (fM b nw) 4]
theorem rk_q {b : Nat} {nw : Bool} (h0 : ¬ fM b nw = 0) : RK (uN (fW b nw - 2)) (qV b nw) (exC b nw - 1080) := by
  have hw := (fW_in b nw).1
  have key : uN (fW b nw - 2) * 10 ^ (exC b nw).toNat = qV b nw * 10 ^ 1080 ∧ 0 ≤ exC b nw := by
    have hx := uN_ex (z := fW b nw - 2) (by omega)
    unfold qV exC exQ exSc exT
    rw [if_neg h0]
    generalize fW b nw - 2 = t at *
    generalize uN t = x at *
    generalize hB : 10 ^ 1080 = B at *
    by_cases ht : 0 ≤ t
    · rw [if_pos ht, if_pos ht]
      rw [show (-t).toNat = 0 by omega, Nat.pow_zero, Nat.mul_one] at hx
      refine ⟨?_, by omega⟩
      rw [hx, show (18 : Int).toNat = 18 from rfl, Nat.mul_comm B, Nat.mul_right_comm]
    · rw [if_neg ht, if_neg ht]
      rw [show t.toNat = 0 by omega, Nat.pow_zero, Nat.mul_one] at hx
      refine ⟨?_, by omega⟩
      rw [show (18 - t).toNat = (-t).toNat + 18 by omega, Nat.pow_add, ← hx, show (10 : Nat) ^ (-t).toNat = 2 ^ (-t).toNat * 5 ^ (-t).toNat by rw [← Nat.mul_pow]]
      generalize 2 ^ (-t).toNat = P
      generalize 5 ^ (-t).toNat = Q
      generalize 10 ^ 18 = T
      rw [Nat.mul_assoc P, ← Nat.mul_assoc, Nat.mul_comm]
  obtain ⟨key, hsc⟩ := key
  obtain ⟨c, hc⟩ : ∃ c : Nat, exC b nw = (c : Int) := ⟨(exC b nw).toNat, by omega⟩
  rw [hc] at hsc ⊢
  rw [hc, Int.toNat_natCast] at key
  by_cases h : 1080 ≤ c
  · refine ⟨c - 1080, Or.inl ⟨by omega, ?_⟩⟩
    apply Nat.eq_of_mul_eq_mul_right (tp 1080)
    rw [← key, Nat.mul_assoc, ← Nat.pow_add, show c - 1080 + 1080 = c by omega]
  · refine ⟨1080 - c, Or.inr ⟨by omega, ?_⟩⟩
    apply Nat.eq_of_mul_eq_mul_right (tp c)
    rw [key, Nat.mul_assoc, ← Nat.pow_add, show 1080 - c + c = 1080 by omega]
theorem rk_V {b : Nat} {nw : Bool} (h0 : ¬ fM b nw = 0) : RK (mV b nw) (sV b nw) (exC b nw - 1080) := by
  unfold mV sV
  rw [Nat.mul_comm]
  exact (rk_q h0).mul _
theorem exC_0 {b : Nat} {nw : Bool} (h0 : fM b nw = 0) : exC b nw = 18 ∧ sV b nw = 0 ∧ mV b nw = 0 := by
  refine ⟨?_, ?_, ?_⟩
  · unfold exC exSc exT
    rw [if_pos h0, if_pos (by decide)]
  · unfold sV
    rw [h0, Nat.mul_zero]
  · unfold mV
    rw [h0, Nat.mul_zero, Nat.zero_mul]
theorem rk_V0 (b : Nat) (nw : Bool) : RK (mV b nw) (sV b nw) (exC b nw - 1080) ∧ 0 ≤ exC b nw := by
  by_cases h0 : fM b nw = 0
  · obtain ⟨h1, h2, h3⟩ := exC_0 h0
    rw [h1, h2, h3]
    exact ⟨⟨1062, Or.inr ⟨by decide, by rw [Nat.zero_mul]⟩⟩, by decide⟩
  · refine ⟨rk_V h0, ?_⟩
    unfold exC exSc
    split <;> omega
theorem rn_nat (v w a b : Nat) : rnZ v ((a - b : Nat) : Int) w = rnZ v ((a : Int) - (b : Int)) w := by
  by_cases h : b ≤ a
  · congr 1
    omega
  · unfold rnZ
    rw [up_neg (by omega), up_neg (by omega)]
    rfl
theorem rn_0 (z : Int) (w : Nat) : rnZ 0 z w = 0 := by
  unfold rnZ upZ
  rw [mr_0 (Nat.zero_mod _), Bool.and_false]
  rfl
theorem fx_go {V S pl w : Nat} {sc : Int} (h : RK V S (sc - 1080)) (hs : 0 ≤ sc) (hw : w ≤ 3) {vr fs : Nat} (hv : vr = ctN V (1080 - pl) (mrB V (1080 - pl) w)) (hf : fs = max (nfig vr - 1) 1080) :
    fxT S sc pl w = dnT (figR vr) ((fs : Int) - 1080) (fs - 1080 + 1) ++ pnT pl ++ dnT (figR vr) (-1) pl := by
  have hr := h.rn ((1080 : Int) - (pl : Int)) w
  rw [show (1080 : Int) - (pl : Int) + (sc - 1080) = sc - (pl : Int) by omega] at hr
  have hd : ∀ y : Int, (1080 : Int) - (pl : Int) ≤ y → figAt vr y = figAt (rnZ V ((1080 : Int) - (pl : Int)) w) y := fun y hy => by
    by_cases hy0 : y < 0
    · rw [figAt_neg hy0, figAt_neg hy0]
    rw [hv, ct_fig (by omega)]
    congr 1
    exact rn_nat V w 1080 pl
  have hn : nfig vr - (1080 - pl) = nfig (rnZ V ((1080 : Int) - (pl : Int)) w) - (1080 - pl) := by
    rw [← nf_div, ← nf_div, hv, ct_div (Nat.le_refl _)]
    congr 2
    exact rn_nat V w 1080 pl
  unfold fxT
  rw [rn_rnd _ _ hw]
  generalize rnZ V ((1080 : Int) - (pl : Int)) w = rV at *
  generalize rnZ S (sc - (pl : Int)) w = rS at *
  have hhi : max ((nfig rS : Int) - 1) sc = (fs : Int) + (sc - 1080) := by
    by_cases h0 : 0 < rV
    · have := hr.nf h0
      omega
    · have h1 : rS = 0 := by
        have := hr.pos
        omega
      rw [h1, nfig_0]
      rw [show rV = 0 by omega, nfig_0] at hn
      omega
  have hg : 1080 ≤ fs := by omega
  rw [hhi, show ((fs : Int) + (sc - 1080) - (sc - (pl : Int)) + 1).toNat = (fs - 1080 + 1) + pl by omega, dn_split, dn_nopt (by omega), List.append_assoc]
  have hF : ∀ z : Int, (1080 : Int) - (pl : Int) ≤ z + 1080 → fgG rS 0 (z + sc) = figR vr z := fun z hz => by
    rw [figR_eq, hd _ hz, hr.fig]
    unfold fgG
    congr 3
    omega
  refine app2 ?_ ?_
  · refine dn_congr _ (fun i hi => ?_)
    rw [← hF _ (by omega)]
    congr 1
    omega
  · rw [show (fs : Int) + (sc - 1080) - ((fs - 1080 + 1 : Nat) : Int) = sc - 1 by omega]
    cases pl with
    | zero => rfl
    | succ p =>
      rw [dn_pt]
      unfold pnT
      rw [if_pos (by omega)]
      refine app2 rfl ?_
      refine dn_congr _ (fun i hi => ?_)
      rw [← hF _ (by omega)]
      congr 1
      omega
theorem fiT_eq {b : Nat} {nw : Bool} {pl w : Nat} (hf : fSz b nw < fI nw) (hp : pl ≤ 1100) (hw : w ≤ 3) : fiT b nw pl w = mfxT b nw pl w := by
  obtain ⟨h, hs⟩ := rk_V0 b nw
  have he : vrF b nw pl w = ctN (mV b nw) (1080 - pl) (mrB (mV b nw) (1080 - pl) w) := by
    unfold vrF
    rw [mW_mV]
  unfold fiT mfxT
  rw [sg_mg, fx_go (pl := pl) (w := w) h hs hw he (fs := fsF b nw pl w) rfl]
  simp only [List.append_assoc]
theorem siT_eq {b : Nat} {nw : Bool} {fg w : Nat} (hf : fSz b nw < fI nw) (hp : 1 ≤ fg ∧ fg ≤ 800) (hw : w ≤ 3) : siT b nw fg w = msiT b nw fg w := by
  obtain ⟨h, hs⟩ := rk_V0 b nw
  unfold siT msiT scT
  rw [sg_mg, rn_rnd _ _ hw, List.append_assoc]
  congr 1
  by_cases h0 : fM b nw = 0
  · obtain ⟨h1, h2, h3⟩ := exC_0 h0
    have e0 : f0F b nw = 1080 := by unfold f0F; rw [if_pos h0]
    have e1 : f1F b nw fg w = 1080 := by
      unfold f1F
      rw [if_neg (by intro hh; exact hh.2 h0), e0]
    have e2 : vsF b nw fg w = 0 := by
      unfold vsF
      rw [mW_mV, h3, mr_0 (Nat.zero_mod _)]
      unfold ctN
      rw [Nat.zero_mod]
      rfl
    have hz : ∀ y : Int, figAt 0 y = 0 := fun y => by
      unfold figAt
      rw [Nat.zero_div]
      split <;> rfl
    rw [e1, e2, h2, rn_0, dn_sci (v' := 0) (hi' := ((1080 : Nat) : Int) - 1080) hp.1 (fun i _ => by rw [hz, hz])]
    rfl
  · have hV : 0 < mV b nw := by
      unfold mV
      exact Nat.mul_pos (by omega) (Nat.lt_of_lt_of_le (by decide) (uN_ge (z := fW b nw - 2) (by have := (fW_fin hf).1; omega)))
    have e0 : f0F b nw = nfig (mV b nw) - 1 := by unfold f0F; rw [if_neg h0, mW_mV]
    have hnS := h.nf hV
    obtain ⟨d, ed, hd1, hd2⟩ := nfig_pos hV
    have eV : vsF b nw fg w = ctN (mV b nw) (d + 1 - fg) (mrB (mV b nw) (d + 1 - fg) w) := by
      unfold vsF
      rw [mW_mV, e0, ed]
      rfl
    have hr := h.rn (((d + 1 : Nat) : Int) - (fg : Int)) w
    rw [ed] at hnS
    rw [show ((d + 1 : Nat) : Int) - (fg : Int) + (exC b nw - 1080) = (nfig (sV b nw) : Int) - (fg : Int) by omega] at hr
    have hD : ∀ y : Int, ((d + 1 : Nat) : Int) - (fg : Int) ≤ y → figAt (vsF b nw fg w) y = figAt (rnZ (mV b nw) (((d + 1 : Nat) : Int) - (fg : Int)) w) y := fun y hy => by
      by_cases hy0 : y < 0
      · rw [figAt_neg hy0, figAt_neg hy0]
      rw [eV, ct_fig (by omega)]
      congr 1
      exact rn_nat _ w (d + 1) fg
    have hrl : 10 ^ d ≤ rnZ (mV b nw) (((d + 1 : Nat) : Int) - (fg : Int)) w ∧ rnZ (mV b nw) (((d + 1 : Nat) : Int) - (fg : Int)) w < 2 * 10 ^ (d + 1) := by
      have hp2 : 10 ^ (((d + 1 : Nat) : Int) - (fg : Int)).toNat ≤ 10 ^ (d + 1) := p10_le (by omega)
      have hp3 := tp (((d + 1 : Nat) : Int) - (fg : Int)).toNat
      have hkk : ∀ x : Nat, 0 < x → x ≤ 10 ^ (d + 1) → 10 ^ d ≤ mV b nw + x ∧ mV b nw + x < 2 * 10 ^ (d + 1) := fun x _ _ => by omega
      unfold rnZ
      split
      · exact hkk _ hp3 hp2
      · omega
    have hf1 : ((nfig (rnZ (mV b nw) (((d + 1 : Nat) : Int) - (fg : Int)) w) : Nat) : Int) - 1 = (f1F b nw fg w : Int) ∧ d ≤ f1F b nw fg w := by
      have e5 : dt (vsF b nw fg w) (d + 1) = rnZ (mV b nw) (((d + 1 : Nat) : Int) - (fg : Int)) w / 10 ^ (d + 1) % 10 := by
        rw [← figAt_dt (z := ((d + 1 : Nat) : Int)) rfl, hD _ (by omega)]
        exact figAt_dt rfl
      unfold f1F
      rw [e0, ed, show d + 1 - 1 + 1 = d + 1 by omega, e5]
      generalize rnZ (mV b nw) (((d + 1 : Nat) : Int) - (fg : Int)) w = rV at *
      by_cases hc : 10 ^ (d + 1) ≤ rV
      · have e6 : rV / 10 ^ (d + 1) = 1 := by
          apply Nat.div_eq_of_lt_le <;> omega
        rw [e6, if_pos ⟨rfl, h0⟩, nfig_of hc (by rw [Nat.pow_succ 10 (d + 1)]; omega)]
        omega
      · rw [Nat.div_eq_of_lt (by omega), if_neg (by intro hh; cases hh.1), nfig_of hrl.1 (by omega)]
        omega
    generalize rnZ (mV b nw) (((d + 1 : Nat) : Int) - (fg : Int)) w = rV at *
    generalize rnZ (sV b nw) ((nfig (sV b nw) : Int) - (fg : Int)) w = rS at *
    have hrV : 0 < rV := Nat.lt_of_lt_of_le (tp d) hrl.1
    have hrS := hr.nf hrV
    have hS0 := hr.pos.mp hrV
    congr 1
    · refine dn_sci hp.1 (fun i hi => ?_)
      rw [hD _ (by omega), hr.fig]
      congr 1
      omega
    · unfold scP
      rw [if_neg (by omega)]
      congr 1
      omega
/-! the shortest text -/
theorem cmpP {P s r h : Nat} (hs : s < P) : (P * h < s + P * r ↔ h < r ∨ (h = r ∧ 0 < s)) ∧ (P * h = s + P * r ↔ h = r ∧ s = 0) := by
  rcases Nat.lt_trichotomy h r with c | c | c
  · have := Nat.mul_le_mul_left P (show h + 1 ≤ r from c)
    rw [Nat.mul_add, Nat.mul_one] at this
    omega
  · subst c
    omega
  · have := Nat.mul_le_mul_left P (show r + 1 ≤ h from c)
    rw [Nat.mul_add, Nat.mul_one] at this
    omega
theorem cut_v {P v : Nat} (hP : 0 < P) : v = v % P + P * (v / P) ∧ v % P < P := ⟨(Nat.mod_add_div v P).symm, Nat.mod_lt _ hP⟩
/-- what is left of a cut value at a coarser place -/
theorem cut_at (S c i : Nat) : S % 10 ^ (c + i) = S % 10 ^ c + 10 ^ c * (S / 10 ^ c % 10 ^ i) ∧ S - S % 10 ^ (c + i) = 10 ^ c * (S / 10 ^ c - S / 10 ^ c % 10 ^ i) ∧ S / 10 ^ c - S / 10 ^ c % 10 ^ i = 10 ^ i * (S / 10 ^ (c + i)) ∧ 10 ^ (c + i) = 10 ^ c * 10 ^ i := by
  have e1 : S % 10 ^ (c + i) = S % 10 ^ c + 10 ^ c * (S / 10 ^ c % 10 ^ i) := by rw [Nat.pow_add, Nat.mod_mul]
  have e2 : S / 10 ^ (c + i) = S / 10 ^ c / 10 ^ i := by rw [Nat.div_div_eq_div_mul, Nat.pow_add]
  have e3 := Nat.mod_add_div (S / 10 ^ c) (10 ^ i)
  have e4 := Nat.mod_add_div S (10 ^ c)
  have e5 : 10 ^ c * (S / 10 ^ c) = 10 ^ c * (S / 10 ^ c % 10 ^ i) + 10 ^ c * (S / 10 ^ c - S / 10 ^ c % 10 ^ i) := by
    rw [← Nat.mul_add]
    congr 1
    have := Nat.mod_le (S / 10 ^ c) (10 ^ i)
    omega
  refine ⟨e1, ?_, ?_, Nat.pow_add _ _ _⟩
  · rw [e1]
    omega
  · rw [e2]
    omega
theorem uF_rb {S L H c i : Nat} {ev : Bool} (hH : S < H) : uF (S / 10 ^ c) (L / 10 ^ c) (cutB L c) ev (10 ^ i) = rbP (ctN S (c + i) false) L H ev := by
  obtain ⟨-, e2, -, -⟩ := cut_at S c i
  obtain ⟨l1, l2⟩ := cut_v (v := L) (tp c)
  have hc := cmpP (r := L / 10 ^ c) (h := S / 10 ^ c - S / 10 ^ c % 10 ^ i) l2
  rw [← l1, ← e2] at hc
  have hle : S - S % 10 ^ (c + i) ≤ S := Nat.sub_le _ _
  unfold uF rbP ctN cutB
  generalize hu : S / 10 ^ c - S / 10 ^ c % 10 ^ i = u at *
  generalize S - S % 10 ^ (c + i) = x at *
  generalize L / 10 ^ c = lo at *
  generalize L % 10 ^ c = l0 at *
  rw [Bool.eq_iff_iff]
  cases ev <;> simp <;> omega
theorem oF_rb {S L H c i : Nat} {ev : Bool} (hL : L < S) : oF (S / 10 ^ c) (H / 10 ^ c) (cutB H c) ev (10 ^ i) = rbP (ctN S (c + i) true) L H ev := by
  obtain ⟨-, e2, -, e4⟩ := cut_at S c i
  obtain ⟨l1, l2⟩ := cut_v (v := H) (tp c)
  have hc := cmpP (r := H / 10 ^ c) (h := S / 10 ^ c - S / 10 ^ c % 10 ^ i + 10 ^ i) l2
  rw [← l1, Nat.mul_add, ← e2, ← e4] at hc
  have hle : S < S - S % 10 ^ (c + i) + 10 ^ (c + i) := by
    have := Nat.mod_lt S (tp (c + i))
    omega
  unfold oF rbP ctN cutB
  generalize hu : S / 10 ^ c - S / 10 ^ c % 10 ^ i + 10 ^ i = u at *
  simp only [if_true]
  generalize S - S % 10 ^ (c + i) + 10 ^ (c + i) = x at *
  generalize H / 10 ^ c = lo at *
  generalize H % 10 ^ c = l0 at *
  rw [Bool.eq_iff_iff]
  cases ev <;> simp <;> omega
theorem nrO_ha {S c i : Nat} : nrO (S / 10 ^ c) (cutB S c) (S / 10 ^ c - S / 10 ^ c % 10 ^ (i + 1)) (10 ^ (i + 1)) = (decide (0 < haF S (c + (i + 1))) || (decide (haF S (c + (i + 1)) = 0) && decide (dt S (c + (i + 1)) % 2 = 1))) := by
  obtain ⟨e1, e2, e3, e4⟩ := cut_at S c (i + 1)
  obtain ⟨a1, a2⟩ := ha_cmp (v := S) (k := c + (i + 1)) (by omega)
  have hm := Nat.mod_lt S (tp c)
  have hT : 10 ^ (i + 1) = 2 * (5 * 10 ^ i) := by rw [Nat.pow_succ]; omega
  have hc := cmpP (r := S / 10 ^ c % 10 ^ (i + 1)) (h := 5 * 10 ^ i) hm
  have hq : 10 ^ c * 10 ^ (i + 1) = 2 * (10 ^ c * (5 * 10 ^ i)) := by rw [hT, Nat.mul_left_comm]
  rw [e1, e4, hq] at a1 a2
  have hd : dt S (c + (i + 1)) % 2 = (S / 10 ^ c - S / 10 ^ c % 10 ^ (i + 1)) / 10 ^ (i + 1) % 2 := by
    rw [e3, Nat.mul_div_cancel_left _ (tp _)]
    unfold dt
    omega
  have hl := Nat.mod_le (S / 10 ^ c) (10 ^ (i + 1))
  have hh : 10 ^ (i + 1) / 2 = 5 * 10 ^ i := by omega
  unfold nrO cutB
  rw [hd, hh]
  generalize (S / 10 ^ c - S / 10 ^ c % 10 ^ (i + 1)) / 10 ^ (i + 1) % 2 = od
  generalize S / 10 ^ c % 10 ^ (i + 1) = r at *
  generalize S / 10 ^ c = sz at *
  generalize 5 * 10 ^ i = h5 at *
  generalize S % 10 ^ c = s0 at *
  generalize 10 ^ c * h5 = A at *
  generalize 10 ^ c * r = B at *
  rw [Bool.eq_iff_iff]
  by_cases h1 : sz = sz - r + h5 ∧ s0 = 0
  · rw [if_pos (by simp; exact h1)]
    have : haF S (c + (i + 1)) = 0 := by omega
    simp [this]
  · rw [if_neg (by simp; omega)]
    have : ¬ haF S (c + (i + 1)) = 0 := by omega
    simp [this]
    omega
/-- the figures at n places, and whether the upper ones are taken -/
def moJ (v vl vh : Nat) (ev : Bool) (n : Nat) : Bool := rbP (ctN v (nfig v - n) true) vl vh ev && (!rbP (ctN v (nfig v - n) false) vl vh ev || decide (0 < haF v (nfig v - n)) || (decide (haF v (nfig v - n) = 0) && decide (dt v (nfig v - n) % 2 = 1)))
def c0J (v vl vh : Nat) (ev : Bool) (n : Nat) : Nat := (if moJ v vl vh ev n = true then 1 else 0) + v / 10 ^ (nfig v - n)
theorem c0N_J (v vl vh : Nat) (ev : Bool) : c0N v vl vh ev = c0J v vl vh ev (nLn v vl vh ev) := rfl
theorem nOU_J {S L H j : Nat} {ev : Bool} (hL : L < S) (hH : S < H) (h18 : 18 ≤ nfig S) (hj : 2 ≤ j ∧ j ≤ 17) :
    (fitN S L H ev j = false → nOU (S / 10 ^ cutN S) (cutB S (cutN S)) (L / 10 ^ cutN S) (cutB L (cutN S)) (H / 10 ^ cutN S) (cutB H (cutN S)) ev (10 ^ (18 - j)) = nNo) ∧
    (fitN S L H ev j = true → nOU (S / 10 ^ cutN S) (cutB S (cutN S)) (L / 10 ^ cutN S) (cutB L (cutN S)) (H / 10 ^ cutN S) (cutB H (cutN S)) ev (10 ^ (18 - j)) = c0J S L H ev j * 10 ^ (18 - j) ∧ ¬ c0J S L H ev j * 10 ^ (18 - j) = nNo) := by
  obtain ⟨i, hi⟩ : ∃ i, 18 - j = i + 1 := ⟨17 - j, by omega⟩
  have hK : nfig S - j = cutN S + (i + 1) := by unfold cutN; omega
  obtain ⟨-, -, e3, -⟩ := cut_at S (cutN S) (i + 1)
  have hlt : S / 10 ^ (cutN S + (i + 1)) < 10 ^ j := by
    obtain ⟨d, ed, d1, d2⟩ := nfig_pos (show 0 < S by omega)
    rw [Nat.div_lt_iff_lt_mul (tp _), ← Nat.pow_add, ← hK, show j + (nfig S - j) = d + 1 by omega]
    exact d2
  have hb : c0J S L H ev j * 10 ^ (i + 1) < nNo := by
    have h1 : c0J S L H ev j ≤ 10 ^ j := by
      unfold c0J
      rw [hK]
      split <;> omega
    have h2 := Nat.mul_le_mul_right (10 ^ (i + 1)) h1
    rw [← Nat.pow_add, show j + (i + 1) = 18 by omega] at h2
    exact Nat.lt_of_le_of_lt h2 (by decide)
  unfold nOU fitN
  rw [hi, uF_rb hH, oF_rb hL, nrO_ha, hK]
  unfold c0J moJ at hb ⊢
  rw [hK] at hb ⊢
  rw [e3]
  generalize rbP (ctN S (cutN S + (i + 1)) false) L H ev = B1 at *
  generalize rbP (ctN S (cutN S + (i + 1)) true) L H ev = B2 at *
  generalize (decide (0 < haF S (cutN S + (i + 1)))) = B3 at *
  generalize (decide (haF S (cutN S + (i + 1)) = 0) && decide (dt S (cutN S + (i + 1)) % 2 = 1)) = B4 at *
  generalize S / 10 ^ (cutN S + (i + 1)) = a at *
  generalize 10 ^ (i + 1) = T at *
  have x1 : (1 + a) * T = T * a + T := by rw [Nat.add_mul, Nat.one_mul, Nat.mul_comm a T, Nat.add_comm]
  have x0 : (0 + a) * T = T * a := by rw [Nat.zero_add, Nat.mul_comm]
  clear e3 hlt hK hi
  generalize nNo = N at *
  cases B1 <;> cases B2 <;> cases B3 <;> cases B4 <;> simp [x1, x0, -Nat.zero_add] at hb ⊢ <;> omega
theorem nLL_J {S L H : Nat} {ev : Bool} (hL : L < S) (hH : S < H) (h18 : 18 ≤ nfig S) (h17 : fitN S L H ev 17 = true) : ∀ k j : Nat, j + (k + 1) = 18 → 2 ≤ j →
    nLL (S / 10 ^ cutN S) (cutB S (cutN S)) (L / 10 ^ cutN S) (cutB L (cutN S)) (H / 10 ^ cutN S) (cutB H (cutN S)) ev j (k + 1) = c0J S L H ev (lLn S L H ev j k) * 10 ^ (18 - lLn S L H ev j k) ∧ 2 ≤ lLn S L H ev j k ∧ lLn S L H ev j k ≤ 17
  | 0, j, hj, h2 => by
    have hj : j = 17 := by omega
    subst hj
    obtain ⟨-, h⟩ := nOU_J (ev := ev) hL hH h18 (j := 17) (by omega)
    have h := h h17
    unfold nLL lLn
    rw [h.1, if_neg h.2]
    exact ⟨rfl, by decide, by decide⟩
  | k + 1, j, hj, h2 => by
    obtain ⟨hn, hy⟩ := nOU_J (ev := ev) hL hH h18 (j := j) (by omega)
    have ih := nLL_J hL hH h18 h17 k (j + 1) (by omega) (by omega)
    rw [nLL, lLn]
    by_cases hf : fitN S L H ev j = true
    · rw [if_pos hf, (hy hf).1, if_neg (hy hf).2]
      exact ⟨rfl, h2, by omega⟩
    · rw [if_neg hf, if_pos (hn (by simpa using hf))]
      exact ih
theorem ct_mono {v k m : Nat} (h : k ≤ m) : ctN v m false ≤ ctN v k false ∧ ctN v k true ≤ ctN v m true ∧ ctN v k false ≤ v ∧ v < ctN v k true := by
  have hk := Nat.mod_lt v (tp k)
  have hm := Nat.mod_lt v (tp m)
  have e : v % 10 ^ m = v % 10 ^ k + 10 ^ k * (v / 10 ^ k % 10 ^ (m - k)) := by
    rw [← Nat.mod_mul, ← Nat.pow_add, show k + (m - k) = m by omega]
  have e2 : v % 10 ^ m + 10 ^ k ≤ v % 10 ^ k + 10 ^ m := by
    have h1 : v / 10 ^ k % 10 ^ (m - k) + 1 ≤ 10 ^ (m - k) := Nat.mod_lt _ (tp _)
    have h2 := Nat.mul_le_mul_left (10 ^ k) h1
    rw [← Nat.pow_add, show k + (m - k) = m by omega, Nat.mul_add, Nat.mul_one] at h2
    omega
  have l1 := Nat.mod_le v (10 ^ k)
  have l2 := Nat.mod_le v (10 ^ m)
  unfold ctN
  simp
  generalize 10 ^ k * (v / 10 ^ k % 10 ^ (m - k)) = Q at *
  generalize 10 ^ k = X at *
  generalize 10 ^ m = Y at *
  omega
theorem fit_mono {S L H : Nat} {ev : Bool} (hL : L < S) (hH : S < H) {n m : Nat} (h : n ≤ m) (hf : fitN S L H ev n = true) : fitN S L H ev m = true := by
  obtain ⟨a1, a2, a3, a4⟩ := ct_mono (v := S) (k := nfig S - m) (m := nfig S - n) (by omega)
  have a5 := (ct_mono (v := S) (Nat.le_refl (nfig S - n))).2.2
  unfold fitN rbP at *
  generalize ctN S (nfig S - n) false = x at *
  generalize ctN S (nfig S - m) false = x' at *
  generalize ctN S (nfig S - n) true = y at *
  generalize ctN S (nfig S - m) true = y' at *
  cases ev <;> simp at * <;> omega
theorem fit_17 {S L H : Nat} {ev : Bool} (hL : L < S) (hH : S < H) (h17 : 17 ≤ nfig S) (hg : S < 10 ^ 16 * (H - L)) : fitN S L H ev 17 = true := by
  obtain ⟨d, ed, d1, d2⟩ := nfig_pos (show 0 < S by omega)
  have e : 10 ^ d = 10 ^ 16 * 10 ^ (nfig S - 17) := by
    rw [← Nat.pow_add]
    congr 1
    omega
  rw [e] at d1
  have h1 : 10 ^ (nfig S - 17) < H - L := Nat.lt_of_mul_lt_mul_left (Nat.lt_of_le_of_lt d1 hg)
  obtain ⟨-, -, a3, a4⟩ := ct_mono (v := S) (Nat.le_refl (nfig S - 17))
  have a5 : ctN S (nfig S - 17) true = ctN S (nfig S - 17) false + 10 ^ (nfig S - 17) := by unfold ctN; simp
  unfold fitN rbP
  generalize ctN S (nfig S - 17) false = x at *
  generalize ctN S (nfig S - 17) true = y at *
  generalize 10 ^ (nfig S - 17) = T at *
  simp
  omega
theorem nLn_2 {S L H : Nat} {ev : Bool} (hL : L < S) (hH : S < H) (h2 : 2 ≤ lLn S L H ev 2 15) : nLn S L H ev = lLn S L H ev 2 15 := by
  unfold nLn
  rw [lLn]
  by_cases h : fitN S L H ev 1 = true
  · rw [if_pos h, if_pos rfl, lLn, if_pos (fit_mono hL hH (by decide) h)]
  · rw [if_neg h]
    show (if lLn S L H ev 2 15 = 1 then 2 else lLn S L H ev 2 15) = lLn S L H ev 2 15
    rw [if_neg (by omega)]
theorem dz_sh : ∀ (n c : Nat) (t i : Int), drZ n c (t + i) = ((drZ n c t).1, (drZ n c t).2 + i)
  | 0, _, _, _ => rfl
  | n + 1, c, t, i => by
    unfold drZ
    split
    · rw [show t + i + 1 = (t + 1) + i by omega]
      exact dz_sh n _ _ _
    · rfl
theorem dz_ten : ∀ (i n x : Nat) (t : Int), drZ (n + i) (x * 10 ^ i) t = drZ n x (t + (i : Int))
  | 0, n, x, t => by simp
  | i + 1, n, x, t => by
    rw [show n + (i + 1) = (n + i) + 1 by omega, drZ, Nat.pow_succ, ← Nat.mul_assoc, if_pos (Nat.mul_mod_left _ _), Nat.mul_div_cancel _ (by decide), dz_ten i n x (t + 1)]
    congr 1
    omega
theorem dz_fuel : ∀ (n m c : Nat) (t : Int), 0 < c → c < 10 ^ (n + 1) → drZ (n + m) c t = drZ n c t
  | 0, m, c, t, h0, h => by
    cases m with
    | zero => rfl
    | succ m =>
      rw [Nat.zero_add]
      unfold drZ
      rw [if_neg (by omega)]
  | n + 1, m, c, t, h0, h => by
    rw [show n + 1 + m = (n + m) + 1 by omega, drZ, drZ]
    by_cases hc : c % 10 = 0
    · rw [if_pos hc, if_pos hc]
      exact dz_fuel n m (c / 10) (t + 1) (by omega) (by rw [Nat.pow_succ] at h; omega)
    · rw [if_neg hc, if_neg hc]
theorem sh_core {S L H : Nat} {ev : Bool} (hL : L < S) (hH : S < H) (h18 : 18 ≤ nfig S) (h17 : fitN S L H ev 17 = true) (t : Int) :
    drZ 18 (nLL (S / 10 ^ cutN S) (cutB S (cutN S)) (L / 10 ^ cutN S) (cutB L (cutN S)) (H / 10 ^ cutN S) (cutB H (cutN S)) ev 2 16) (((cutN S : Nat) : Int) + t) = ((msD S L H ev).1, (msD S L H ev).2 + t) := by
  obtain ⟨h1, h2, h3⟩ := nLL_J hL hH h18 h17 15 2 (by decide) (by decide)
  have hn := nLn_2 hL hH h2
  rw [h1]
  unfold msD lpN
  rw [c0N_J, hn]
  generalize lLn S L H ev 2 15 = n at *
  have hc : c0J S L H ev n ≤ 10 ^ n ∧ 0 < c0J S L H ev n := by
    obtain ⟨d, ed, d1, d2⟩ := nfig_pos (show 0 < S by omega)
    have hlt : S / 10 ^ (nfig S - n) < 10 ^ n := by
      rw [Nat.div_lt_iff_lt_mul (tp _), ← Nat.pow_add, show n + (nfig S - n) = d + 1 by omega]
      exact d2
    have hgt : 0 < S / 10 ^ (nfig S - n) := Nat.div_pos (Nat.le_trans (p10_le (by omega)) d1) (tp _)
    unfold c0J
    split <;> omega
  have e : drZ 18 (c0J S L H ev n * 10 ^ (18 - n)) (((cutN S : Nat) : Int) + t) = drZ n (c0J S L H ev n) (((nfig S - n : Nat) : Int) + t) := by
    have := dz_ten (18 - n) n (c0J S L H ev n) (((cutN S : Nat) : Int) + t)
    rw [show n + (18 - n) = 18 by omega] at this
    rw [this]
    congr 1
    unfold cutN
    omega
  have e2 := dz_fuel n (18 - n) (c0J S L H ev n) (((nfig S - n : Nat) : Int) + t) hc.2 (by rw [Nat.pow_succ]; omega)
  rw [show n + (18 - n) = 18 by omega] at e2
  rw [e, ← e2, dz_sh]
theorem sc_ct (v m k : Nat) (mr : Bool) : ctN (v * 10 ^ k) (m + k) mr = ctN v m mr * 10 ^ k := by
  unfold ctN
  rw [sc_mod, Nat.pow_add, Nat.add_mul, Nat.sub_mul]
  cases mr <;> simp
theorem sc_rb (a b c k : Nat) (ev : Bool) : rbP (a * 10 ^ k) (b * 10 ^ k) (c * 10 ^ k) ev = rbP a b c ev := by
  have h := tp k
  unfold rbP
  simp only [Nat.mul_lt_mul_right h, Nat.mul_right_cancel_iff h]
theorem sc_fit {v vl vh n k : Nat} {ev : Bool} (hv : 0 < v) (hn : n ≤ nfig v) : fitN (v * 10 ^ k) (vl * 10 ^ k) (vh * 10 ^ k) ev n = fitN v vl vh ev n := by
  unfold fitN
  rw [sc_nfig hv, show nfig v + k - n = nfig v - n + k by omega, sc_ct, sc_ct, sc_rb, sc_rb]
theorem sc_ll {v vl vh k : Nat} {ev : Bool} (hv : 0 < v) (hn : 17 ≤ nfig v) : ∀ i n : Nat, n + i ≤ 17 → lLn (v * 10 ^ k) (vl * 10 ^ k) (vh * 10 ^ k) ev n i = lLn v vl vh ev n i ∧ lLn v vl vh ev n i ≤ 17
  | 0, n, _ => ⟨rfl, Nat.le_refl _⟩
  | i + 1, n, h => by
    have ih := sc_ll (vl := vl) (vh := vh) (k := k) (ev := ev) hv hn i (n + 1) (by omega)
    rw [lLn, lLn, sc_fit hv (by omega), ih.1]
    refine ⟨rfl, ?_⟩
    split
    · omega
    · exact ih.2
theorem sc_ms {v vl vh : Nat} {ev : Bool} (k : Nat) (hv : 0 < v) (hn : 18 ≤ nfig v) : msD (v * 10 ^ k) (vl * 10 ^ k) (vh * 10 ^ k) ev = ((msD v vl vh ev).1, (msD v vl vh ev).2 + (k : Int)) := by
  have hl := sc_ll (vl := vl) (vh := vh) (k := k) (ev := ev) hv (by omega) 16 1 (by omega)
  have e1 : nLn (v * 10 ^ k) (vl * 10 ^ k) (vh * 10 ^ k) ev = nLn v vl vh ev := by
    unfold nLn
    rw [hl.1]
  have e2 : nLn v vl vh ev ≤ 17 := by
    unfold nLn
    split
    · omega
    · exact hl.2
  have e3 : lpN (v * 10 ^ k) (vl * 10 ^ k) (vh * 10 ^ k) ev = lpN v vl vh ev + k := by
    unfold lpN
    rw [sc_nfig hv, e1]
    omega
  have e4 : 0 < lpN v vl vh ev := by
    unfold lpN
    omega
  have e5 : c0N (v * 10 ^ k) (vl * 10 ^ k) (vh * 10 ^ k) ev = c0N v vl vh ev := by
    unfold c0N moN
    rw [e3, sc_div, sc_ct, sc_ct, sc_rb, sc_rb, sc_ha e4, sc_dt]
  unfold msD
  rw [e3, e5, ← dz_sh]
  congr 1
theorem qV_pos (b : Nat) (nw : Bool) : 0 < qV b nw := by
  unfold qV exQ
  refine Nat.mul_pos ?_ (tp 18)
  split
  · exact Nat.pow_pos (by decide)
  · exact Nat.pow_pos (by decide)
theorem loK_in (b : Nat) (nw : Bool) : 1 ≤ loK b nw ∧ loK b nw ≤ 2 ∧ (loK b nw = 1 → fM b nw ≤ 4503599627370496) := by
  unfold loK
  split
  · rename_i h
    refine ⟨by decide, by decide, fun _ => ?_⟩
    unfold fM
    rw [if_neg (by omega), h.1]
    exact (fP_pow nw).1
  · exact ⟨by decide, by decide, fun h => by cases h⟩
theorem pr_a {x : Nat × Int} {s : Int} {k : Nat} (hd : s - 1080 = (k : Int)) : (((x.1, x.2 + (k : Int)) : Nat × Int).1, ((x.1, x.2 + (k : Int)) : Nat × Int).2 + -s) = (x.1, x.2 - 1080) := by
  refine Prod.ext rfl ?_
  show x.2 + (k : Int) + -s = x.2 - 1080
  omega
theorem pr_b {x : Nat × Int} {s : Int} {k : Nat} (hd : s - 1080 = -(k : Int)) : (x.1, x.2 + -s) = (((x.1, x.2 + (k : Int)) : Nat × Int).1, ((x.1, x.2 + (k : Int)) : Nat × Int).2 - 1080) := by
  refine Prod.ext rfl ?_
  show x.2 + -s = x.2 + (k : Int) - 1080
  omega
theorem md_sh {b : Nat} {nw : Bool} (hf : fSz b nw < fI nw) (h0 : ¬ fM b nw = 0) : shD b nw = ((mD b nw).1, (mD b nw).2 - 1080) := by
  have hq := qV_pos b nw
  have hM := fM_lt b nw
  obtain ⟨k1, k2, k3⟩ := loK_in b nw
  have hL : lV b nw < sV b nw := by
    unfold lV sV
    exact Nat.mul_lt_mul_of_pos_left (by omega) hq
  have hH : sV b nw < hV b nw := by
    unfold hV sV
    exact Nat.mul_lt_mul_of_pos_left (by omega) hq
  have hS18 : 18 ≤ nfig (sV b nw) := Nat.le_trans (by decide) (nfig_ge (n := 18) (sV_ge h0))
  have hg : sV b nw < 10 ^ 16 * (hV b nw - lV b nw) := by
    unfold hV lV sV
    rw [← Nat.mul_sub, Nat.mul_left_comm (10 ^ 16)]
    refine Nat.mul_lt_mul_of_pos_left ?_ hq
    omega
  have h17 : fitN (sV b nw) (lV b nw) (hV b nw) (decide (fM b nw % 2 = 0)) 17 = true := fit_17 hL hH (by omega) hg
  have core := sh_core hL hH hS18 h17 (-(exC b nw))
  have e1 : shD b nw = ((msD (sV b nw) (lV b nw) (hV b nw) (decide (fM b nw % 2 = 0))).1, (msD (sV b nw) (lV b nw) (hV b nw) (decide (fM b nw % 2 = 0))).2 + -(exC b nw)) := by
    rw [shD_eq, ← core]
    unfold co0 cK exC
    rw [Int.sub_eq_add_neg]
  have hev : (decide (fF b nw % 2 = 0)) = (decide (fM b nw % 2 = 0)) := by
    have hp : 2 ^ fP nw % 2 = 0 := by cases nw <;> decide
    unfold fM
    generalize 2 ^ fP nw = P at *
    congr 1
    apply propext
    split <;> omega
  have e2 : mD b nw = msD (4 * fM b nw * uN (fW b nw - 2)) ((4 * fM b nw - loK b nw) * uN (fW b nw - 2)) ((4 * fM b nw + 2) * uN (fW b nw - 2)) (decide (fM b nw % 2 = 0)) := by
    rw [mD_eq, hev]
    rfl
  have hU : 100000000000000000 ≤ uN (fW b nw - 2) := uN_ge (by have := (fW_in b nw).1; omega)
  have hVb : 100000000000000000 ≤ 4 * fM b nw * uN (fW b nw - 2) := Nat.le_trans hU (Nat.le_mul_of_pos_left _ (by omega))
  have hV18 : 18 ≤ nfig (4 * fM b nw * uN (fW b nw - 2)) := nfig_ge (n := 17) hVb
  rw [e1, e2]
  obtain ⟨k, ⟨hd, e⟩ | ⟨hd, e⟩⟩ := rk_q h0
  · have es : ∀ c : Nat, qV b nw * c = c * uN (fW b nw - 2) * 10 ^ k := fun c => by rw [e, Nat.mul_comm, Nat.mul_assoc]
    unfold sV lV hV
    rw [es, es, es, sc_ms k (by omega) hV18]
    generalize msD (4 * fM b nw * uN (fW b nw - 2)) ((4 * fM b nw - loK b nw) * uN (fW b nw - 2)) ((4 * fM b nw + 2) * uN (fW b nw - 2)) (decide (fM b nw % 2 = 0)) = x
    exact pr_a hd
  · have es : ∀ c : Nat, c * uN (fW b nw - 2) = qV b nw * c * 10 ^ k := fun c => by rw [e, ← Nat.mul_assoc, Nat.mul_comm c]
    have es1 : 4 * fM b nw * uN (fW b nw - 2) = sV b nw * 10 ^ k := es _
    have es2 : (4 * fM b nw - loK b nw) * uN (fW b nw - 2) = lV b nw * 10 ^ k := es _
    have es3 : (4 * fM b nw + 2) * uN (fW b nw - 2) = hV b nw * 10 ^ k := es _
    rw [es1, es2, es3, sc_ms k (by have := sV_ge (b := b) (nw := nw) h0; omega) hS18]
    generalize msD (sV b nw) (lV b nw) (hV b nw) (decide (fM b nw % 2 = 0)) = x
    exact pr_b hd
theorem dgD_eq {b : Nat} {nw : Bool} (hf : fSz b nw < fI nw) : dgD b nw = dgM b nw := by
  unfold dgD dgM
  by_cases h0 : fM b nw = 0
  · rw [if_pos h0, if_pos h0]
  · rw [if_neg h0, if_neg h0, md_sh hf h0]
theorem pwD_eq {b : Nat} {nw : Bool} (hf : fSz b nw < fI nw) : pwD b nw = pwM b nw := by
  unfold pwD pwM
  by_cases h0 : fM b nw = 0
  · rw [if_pos h0, if_pos h0]
  · rw [if_neg h0, if_neg h0, md_sh hf h0]
/-! hexadecimal -/
theorem hx_mod (fr k : Nat) : fr % 2 ^ (4 * (k + 1)) = fr % 2 ^ (4 * k) + 2 ^ (4 * k) * hxd fr k := by
  unfold hxd
  rw [show 4 * (k + 1) = 4 * k + 4 by omega, Nat.pow_add, Nat.mod_mul]
theorem hx_mod0 (fr k : Nat) : fr % 2 ^ (4 * (k + 1)) = 0 ↔ fr % 2 ^ (4 * k) = 0 ∧ hxd fr k = 0 := by
  rw [hx_mod]
  have hp : 0 < 2 ^ (4 * k) := Nat.pow_pos (by decide)
  constructor
  · intro h
    have : 2 ^ (4 * k) * hxd fr k = 0 := by omega
    rcases Nat.mul_eq_zero.mp this with c | c
    · omega
    · exact ⟨by omega, c⟩
  · intro h
    rw [h.1, h.2, Nat.mul_zero]
theorem hx_up {fr k : Nat} (h : ¬ fr % 2 ^ (4 * k) = 0) : ∀ m : Nat, ¬ fr % 2 ^ (4 * (k + m)) = 0
  | 0 => h
  | m + 1 => fun c => hx_up h m ((hx_mod0 fr (k + m)).mp c).1
theorem hxL_s (fr : Nat) : ∀ m k : Nat, fr % 2 ^ (4 * k) = 0 → hxL fr k (m + 1) = if fr % 2 ^ (4 * (k + m + 1)) = 0 then k + m + 1 else hxL fr k m
  | 0, k, h => by
    have e := hx_mod0 fr k
    unfold hxL
    by_cases hd : hxd fr k = 0
    · rw [if_pos hd, if_pos (e.mpr ⟨h, hd⟩)]
      rfl
    · rw [if_neg hd, if_neg (fun c => hd (e.mp c).2)]
  | m + 1, k, h => by
    have e := hx_mod0 fr k
    have eL : ∀ m k : Nat, hxL fr k (m + 1) = if hxd fr k = 0 then hxL fr (k + 1) m else k := fun _ _ => rfl
    rw [eL (m + 1) k, eL m k]
    by_cases hd : hxd fr k = 0
    · rw [if_pos hd, if_pos hd, hxL_s fr m (k + 1) (e.mpr ⟨h, hd⟩), show k + 1 + m + 1 = k + (m + 1) + 1 by omega]
    · rw [if_neg hd, if_neg hd, if_neg]
      have := hx_up (fun c => hd (e.mp c).2) (m + 1)
      rw [show k + 1 + (m + 1) = k + (m + 1) + 1 by omega] at this
      exact this
theorem mhx_le (fr : Nat) : ∀ m k : Nat, hxL fr k m ≤ k + m
  | 0, k => Nat.le_refl _
  | m + 1, k => by
    rw [hxL]
    have := mhx_le fr m (k + 1)
    split <;> omega
theorem mhF_hx (fr : Nat) : ∀ m : Nat, mhF fr m = dnT (hxG fr) ((m : Nat) : Int) (m + 1 - hxL fr 0 m)
  | 0 => by
    rw [show 0 + 1 - hxL fr 0 0 = 1 from rfl, dn_one]
    rfl
  | m + 1 => by
    rw [mhF, hxL_s fr m 0 (by rw [Nat.mul_zero, Nat.pow_zero, Nat.mod_one]), show 0 + m + 1 = m + 1 by omega]
    by_cases h : fr % 2 ^ (4 * (m + 1)) = 0
    · rw [if_pos h, if_pos h, show m + 1 + 1 - (m + 1) = 1 by omega, dn_one, List.append_nil]
      rfl
    · have hl := mhx_le fr m 0
      rw [if_neg h, if_neg h, show m + 1 + 1 - hxL fr 0 m = (m + 1 - hxL fr 0 m) + 1 by omega, dn_cons, mhF_hx fr m]
      refine app2 rfl ?_
      congr 1
      omega
theorem nn_nm {b : Nat} {nw : Bool} (h : ¬ fE b nw < fMo nw) : nnT b nw = nmT (fN b nw) (fF b nw) := by
  obtain ⟨h1, h2, h3⟩ := (sz_facts b nw).2 h
  unfold nnT nmT
  by_cases hc : fF b nw = 0
  · rw [if_pos hc, if_neg (by have := h1.mp hc; omega), sg_mg]
  · rw [if_neg hc, if_pos (by have := fun c => hc (h1.mpr c); omega)]
theorem hdT_eq {b : Nat} {nw : Bool} : hdT b nw = mhdT b nw := by
  unfold hdT mhdT
  by_cases hf : fE b nw < fMo nw
  · rw [if_pos hf, if_pos ((fin_iff b nw).mp hf), sg_mg]
    have hx : hfT b nw = mhF (hfM b nw) (hiM nw) := by
      unfold hfT hfM hiM hxT
      cases nw
      · simp only [Bool.false_eq_true, if_false]
        rw [mhF_hx]
      · simp only [if_true]
        rw [mhF_hx, Nat.mul_comm]
    unfold hsT hpM
    by_cases h0 : fM b nw = 0
    · have hE : fE b nw = 0 ∧ fF b nw = 0 := by
        have hp := (fP_pow nw).2
        unfold fM at h0
        split at h0 <;> omega
      have hy : mhF (hfM b nw) (hiM nw) = [48] := by
        have : hfM b nw = 0 := by unfold hfM; rw [hE.2]; split <;> rfl
        rw [this]
        cases nw <;> decide
      rw [if_pos h0, if_pos h0, hE.1, hy]
      simp only [List.append_assoc]
      exact app2 rfl (by decide)
    · rw [if_neg h0, if_neg h0, hx]
      simp only [List.append_assoc]
      refine app2 rfl ?_
      by_cases hE : fE b nw = 0
      · rw [if_pos hE, if_neg (by omega)]
        rfl
      · rw [if_neg hE, if_pos (by omega)]
        rfl
  · rw [if_neg hf, if_neg (fun c => hf ((fin_iff b nw).mpr c)), nn_nm hf]
/-! where the plain text begins and ends -/
theorem R_in {v vl vh : Nat} {ev : Bool} (hv : v < vh) (h0 : 0 < v) (hl : lpN v vl vh ev < nfig v) : c0N v vl vh ev * 10 ^ lpN v vl vh ev ≤ vh ∧ 10 ^ (nfig v - 1) ≤ c0N v vl vh ev * 10 ^ lpN v vl vh ev := by
  obtain ⟨d, ed, d1, d2⟩ := nfig_pos h0
  have hm := Nat.mod_add_div v (10 ^ lpN v vl vh ev)
  have h1 : 10 ^ (nfig v - 1) ≤ v / 10 ^ lpN v vl vh ev * 10 ^ lpN v vl vh ev := by
    have : 10 ^ (d - lpN v vl vh ev) ≤ v / 10 ^ lpN v vl vh ev := by
      rw [Nat.le_div_iff_mul_le (tp _), ← Nat.pow_add, show d - lpN v vl vh ev + lpN v vl vh ev = d by omega]
      exact d1
    have := Nat.mul_le_mul_right (10 ^ lpN v vl vh ev) this
    rw [← Nat.pow_add, show d - lpN v vl vh ev + lpN v vl vh ev = nfig v - 1 by omega] at this
    exact this
  have h2 : v / 10 ^ lpN v vl vh ev * 10 ^ lpN v vl vh ev = v - v % 10 ^ lpN v vl vh ev := by rw [Nat.mul_comm]; omega
  unfold c0N
  by_cases hmo : moN v vl vh ev = true
  · rw [if_pos hmo, Nat.add_mul, Nat.one_mul]
    refine ⟨?_, by omega⟩
    have hr : rbP (ctN v (lpN v vl vh ev) true) vl vh ev = true := by
      unfold moN at hmo
      rw [Bool.and_eq_true] at hmo
      exact hmo.1
    unfold rbP ctN at hr
    rw [if_pos rfl] at hr
    have := (of_decide_eq_true hr).2
    omega
  · rw [if_neg hmo, Nat.zero_add]
    omega
theorem nf_lt {v n : Nat} : nfig v ≤ n ↔ v < 10 ^ n := by
  constructor
  · intro h
    by_cases h0 : v = 0
    · rw [h0]
      exact tp n
    · obtain ⟨d, ed, d1, d2⟩ := nfig_pos (Nat.pos_of_ne_zero h0)
      exact Nat.lt_of_lt_of_le d2 (p10_le (by omega))
  · exact nfig_le
theorem fW_big {b : Nat} {nw : Bool} (h : (if nw = true then -149 else -1074) < fW b nw) : 2 ^ fP nw ≤ fM b nw := by
  have hE : ¬ fE b nw = 0 := by
    intro hc
    unfold fW fB at h
    rw [hc] at h
    split at h <;> omega
  unfold fM
  rw [if_neg hE]
  omega
theorem uN_neg {t : Int} {n : Nat} (h : t = -(n : Int)) (hn : n ≤ 1080) : uN t * 2 ^ n = 10 ^ 1080 := by
  have := uN_ex (z := t) (by omega)
  rw [show (-t).toNat = n by omega, show t.toNat = 0 by omega, Nat.pow_zero, Nat.mul_one] at this
  exact this
theorem uN_nn {t : Int} {n : Nat} (h : t = (n : Int)) : uN t = 10 ^ 1080 * 2 ^ n := by
  have := uN_ex (z := t) (by omega)
  rw [show (-t).toNat = 0 by omega, show t.toNat = n by omega, Nat.pow_zero, Nat.mul_one] at this
  exact this
/-- a value under ten to a place, with the unit's scale taken away -/
theorem th_neg {x U P T e : Nat} (hU : U * P = T) (hT : 0 < T) (hP : 0 < P) : x * U < T * e ↔ x < e * P := by
  have h1 : x * U < T * e ↔ x * U * P < T * e * P := (Nat.mul_lt_mul_right hP).symm
  rw [h1, Nat.mul_assoc x, hU, Nat.mul_comm x, Nat.mul_assoc T, Nat.mul_lt_mul_left hT]
theorem th_neg3 {x U P T e : Nat} (hU : U * P = T * e) (hT : 0 < T) (hP : 0 < P) : x * U < T ↔ e * x < P := by
  have h1 : x * U < T ↔ x * U * P < T * P := (Nat.mul_lt_mul_right hP).symm
  rw [h1, Nat.mul_assoc x, hU, Nat.mul_left_comm, Nat.mul_lt_mul_left hT, Nat.mul_comm e]
theorem mth_7 {b : Nat} {nw : Bool} (h : 4 * fM b nw * uN (fW b nw - 2) < 10 ^ 1087) : (4 * fM b nw + 2) * uN (fW b nw - 2) < 10 ^ 1087 := by
  have hw := (fW_in b nw).1
  have e : (10 : Nat) ^ 1087 = 10 ^ 1080 * 10000000 := by rw [show 1087 = 1080 + 7 from rfl, Nat.pow_add]
  rw [e] at h ⊢
  have hT := tp 1080
  by_cases ht : fW b nw - 2 < 0
  · obtain ⟨n, hn⟩ : ∃ n : Nat, fW b nw - 2 = -(n : Int) := ⟨(-(fW b nw - 2)).toNat, by omega⟩
    have hU := uN_neg hn (by omega)
    have hP : 0 < 2 ^ n := Nat.pow_pos (by decide)
    rw [th_neg hU hT hP] at h ⊢
    omega
  · obtain ⟨n, hn⟩ : ∃ n : Nat, fW b nw - 2 = (n : Int) := ⟨(fW b nw - 2).toNat, by omega⟩
    have hU := uN_nn hn
    rw [hU, Nat.mul_left_comm, Nat.mul_lt_mul_left hT] at h ⊢
    by_cases h6 : n < 6
    · rcases (show n = 0 ∨ n = 1 ∨ n = 2 ∨ n = 3 ∨ n = 4 ∨ n = 5 by omega) with c | c | c | c | c | c <;> subst c <;> omega
    · exfalso
      have hM := Nat.le_trans (fP_pow nw).2 (fW_big (b := b) (nw := nw) (by split <;> omega))
      have h2 : 2 ^ 6 ≤ 2 ^ n := Nat.pow_le_pow_right (by decide) (by omega)
      have := Nat.mul_le_mul (show 4 * 8388608 ≤ 4 * fM b nw by omega) h2
      omega
theorem mth_3 {b : Nat} {nw : Bool} (hf : fSz b nw < fI nw) (h0 : ¬ fM b nw = 0) (h : 4 * fM b nw * uN (fW b nw - 2) < 10 ^ 1077) : (4 * fM b nw + 2) * uN (fW b nw - 2) < 10 ^ 1077 := by
  have hw := (fW_in b nw).1
  have h4 : 0 < 4 * fM b nw := by clear h; omega
  have e : (10 : Nat) ^ 1080 = 10 ^ 1077 * 1000 := by rw [show 1080 = 1077 + 3 from rfl, Nat.pow_add]
  have hT := tp 1077
  by_cases ht : fW b nw - 2 < 0
  · obtain ⟨n, hn⟩ : ∃ n : Nat, fW b nw - 2 = -(n : Int) := ⟨(-(fW b nw - 2)).toNat, by omega⟩
    have hU := uN_neg hn (by omega)
    rw [e] at hU
    have hP : 0 < 2 ^ n := Nat.pow_pos (by decide)
    rw [th_neg3 hU hT hP] at h ⊢
    clear hU hT e
    have fin : ∀ X P M : Nat, M < X → 4000 * X ≤ P → 1000 * (4 * M) < P → 1000 * (4 * M + 2) < P := fun X P M h1 h2 _ => by omega
    cases nw
    · have hM : fM b false < 9007199254740992 := fM_lt b false
      by_cases h65 : 65 ≤ n
      · have h2 : 2 ^ 65 ≤ 2 ^ n := Nat.pow_le_pow_right (by decide) h65
        exact fin _ _ _ hM (Nat.le_trans (by decide) h2) h
      · have hB : 2 ^ 52 ≤ fM b false := fW_big (b := b) (nw := false) (by simp; omega)
        by_cases h64 : n = 64
        · subst h64
          clear hf hn ht hw hP
          generalize fM b false = M at *
          have e64 : (2 : Nat) ^ 64 = 18446744073709551616 := by decide
          rw [e64] at h ⊢
          omega
        · have h2 : 2 ^ n ≤ 2 ^ 63 := Nat.pow_le_pow_right (by decide) (by omega)
          have e63 : (2 : Nat) ^ 63 = 9223372036854775808 := by decide
          have e52 : (2 : Nat) ^ 52 = 4503599627370496 := by decide
          rw [e63] at h2
          rw [e52] at hB
          clear hf hn ht hw hP
          generalize fM b false = M at *
          generalize 2 ^ n = Q at *
          omega
    · have hM : fM b true < 16777216 := by
        have h1 : fF b true < 8388608 := fF_lt b true
        have h2 : 2 ^ fP true = 8388608 := rfl
        unfold fM
        rw [h2]
        split <;> omega
      by_cases h36 : 36 ≤ n
      · have h2 : 2 ^ 36 ≤ 2 ^ n := Nat.pow_le_pow_right (by decide) h36
        exact fin _ _ _ hM (Nat.le_trans (by decide) h2) h
      · have hB : 2 ^ 23 ≤ fM b true := fW_big (b := b) (nw := true) (by simp; omega)
        by_cases h35 : n = 35
        · subst h35
          clear hf hn ht hw hP
          generalize fM b true = M at *
          have e35 : (2 : Nat) ^ 35 = 34359738368 := by decide
          rw [e35] at h ⊢
          omega
        · have h2 : 2 ^ n ≤ 2 ^ 34 := Nat.pow_le_pow_right (by decide) (by omega)
          have e34 : (2 : Nat) ^ 34 = 17179869184 := by decide
          have e23 : (2 : Nat) ^ 23 = 8388608 := by decide
          rw [e34] at h2
          rw [e23] at hB
          clear hf hn ht hw hP
          generalize fM b true = M at *
          generalize 2 ^ n = Q at *
          omega
  · exfalso
    obtain ⟨n, hn⟩ : ∃ n : Nat, fW b nw - 2 = (n : Int) := ⟨(fW b nw - 2).toNat, by omega⟩
    have hU := uN_nn hn
    have hP : 0 < 2 ^ n := Nat.pow_pos (by decide)
    rw [hU, e] at h
    have h1 : 10 ^ 1077 * 1 ≤ 10 ^ 1077 * (1000 * (4 * fM b nw * 2 ^ n)) := Nat.mul_le_mul_left _ (Nat.mul_pos (by decide) (Nat.mul_pos h4 hP))
    rw [Nat.mul_one] at h1
    have h2 : 4 * fM b nw * (10 ^ 1077 * 1000 * 2 ^ n) = 10 ^ 1077 * (1000 * (4 * fM b nw * 2 ^ n)) := by
      generalize 10 ^ 1077 = A
      generalize 2 ^ n = B
      generalize 4 * fM b nw = C
      rw [Nat.mul_assoc A, Nat.mul_left_comm C, Nat.mul_left_comm C]
    rw [h2] at h
    exact Nat.lt_irrefl _ (Nat.lt_of_lt_of_le h h1)
theorem ll_ge {v vl vh : Nat} {ev : Bool} : ∀ i n : Nat, n + i ≤ 17 → n ≤ lLn v vl vh ev n i
  | 0, n, h => by rw [lLn]; omega
  | i + 1, n, h => by
    have ih := ll_ge (v := v) (vl := vl) (vh := vh) (ev := ev) i (n + 1) (by omega)
    rw [lLn]
    split <;> omega
theorem ms_top {v vl vh : Nat} {ev : Bool} (hv : v < vh) (h0 : 0 < v) : ∃ R : Nat, (msD v vl vh ev).2 + ((nfig (msD v vl vh ev).1 : Nat) : Int) = ((nfig R : Nat) : Int) ∧ R ≤ vh ∧ 10 ^ (nfig v - 1) ≤ R ∧ nfig v ≤ nfig R := by
  have hn : 1 ≤ nLn v vl vh ev := by
    have := ll_ge (v := v) (vl := vl) (vh := vh) (ev := ev) 16 1 (by decide)
    unfold nLn
    split <;> omega
  obtain ⟨d, ed, d1, d2⟩ := nfig_pos h0
  have hl : lpN v vl vh ev < nfig v := by unfold lpN; omega
  obtain ⟨r1, r2⟩ := R_in hv h0 hl
  have hR : 0 < c0N v vl vh ev * 10 ^ lpN v vl vh ev := Nat.lt_of_lt_of_le (tp _) r2
  have hc : 0 < c0N v vl vh ev := Nat.pos_of_mul_pos_right hR
  obtain ⟨i, -, i2, i3, i4, -⟩ := drZ_spec 18 (c0N v vl vh ev) ((lpN v vl vh ev : Nat) : Int) hc
  refine ⟨_, ?_, r1, r2, ?_⟩
  · unfold msD
    generalize drZ 18 (c0N v vl vh ev) ((lpN v vl vh ev : Nat) : Int) = x at *
    rw [i3, Nat.mul_assoc, ← Nat.pow_add, sc_nfig i4, i2]
    omega
  · have := nfig_ge r2
    omega
theorem pl_iff {b : Nat} {nw : Bool} (hf : fSz b nw < fI nw) (h0 : ¬ fM b nw = 0) : plM b nw = true ↔ (-3 ≤ fpM b nw ∧ fpM b nw < 7) := by
  have hU : 100000000000000000 ≤ uN (fW b nw - 2) := uN_ge (by have := (fW_in b nw).1; omega)
  have hV : 0 < mV b nw := Nat.mul_pos (by omega) (by omega)
  have hVH : mV b nw < (4 * fM b nw + 2) * uN (fW b nw - 2) := Nat.mul_lt_mul_of_pos_right (by omega) (by omega)
  obtain ⟨R, e1, r1, r2, r3⟩ := ms_top (vl := (4 * fM b nw - lkM (fE b nw) (fF b nw)) * uN (fW b nw - 2)) (ev := decide (fF b nw % 2 = 0)) hVH hV
  have e2 : (mD b nw).2 + ((nfig (mD b nw).1 : Nat) : Int) = ((nfig R : Nat) : Int) := by
    rw [mD_eq]
    exact e1
  have t7 : nfig (mV b nw) ≤ 1087 → nfig R ≤ 1087 := fun h => nf_lt.mpr (Nat.lt_of_le_of_lt r1 (mth_7 (nf_lt.mp h)))
  have t3 : nfig (mV b nw) ≤ 1077 → nfig R ≤ 1077 := fun h => nf_lt.mpr (Nat.lt_of_le_of_lt r1 (mth_3 hf h0 (nf_lt.mp h)))
  clear e1 r1 r2 hVH hU
  unfold plM fpM
  simp only [Bool.and_eq_true, decide_eq_true_eq]
  generalize nfig (mV b nw) = a at *
  generalize nfig R = r at *
  generalize nfig (mD b nw).1 = n at *
  generalize (mD b nw).2 = t at *
  clear hf h0 hV
  omega
theorem prT_eq {b : Nat} {nw : Bool} : prT b nw = mprT b nw := by
  unfold prT mprT
  by_cases hf : fE b nw < fMo nw
  · have hf' := (fin_iff b nw).mp hf
    rw [if_pos hf, if_pos hf', sg_mg]
    unfold ssT
    by_cases h0 : fM b nw = 0
    · rw [if_pos h0, if_pos h0]
      simp only [List.append_assoc]
      rfl
    · have hm := md_sh hf' h0
      have e1 : (shD b nw).1 = (mD b nw).1 := by rw [hm]
      have e2 : (shD b nw).2 = tnM b nw := by rw [hm]; rfl
      have e3 : fpD b nw = fpM b nw := by
        unfold fpD fpM
        rw [hm]
      rw [if_neg h0, if_neg h0, e1, e2, e3]
      have hi := pl_iff hf' h0
      unfold figM bgM onM n1M n2M edM
      unfold bgM onM
      simp only [List.append_assoc]
      refine app2 rfl ?_
      by_cases hp : plM b nw = true
      · rw [if_pos (hi.mp hp)]
        simp only [hp, if_true]
        unfold plT
        generalize (mD b nw).1 = c
        generalize tnM b nw = t
        generalize fpM b nw = fp
        rw [List.append_nil, show (max fp 0 - min t (-1) + 1).toNat = (max fp 0 - 0 + 1).toNat + (0 - 1 - min t (0 - 1) + 1).toNat by omega, dn_split, dn_nopt (by omega)]
        refine app2 rfl ?_
        rw [show max fp 0 - (((max fp 0 - 0 + 1).toNat : Nat) : Int) = -1 by omega, show (0 - 1 - min t (0 - 1) + 1).toNat = (-1 - min t (-1)).toNat + 1 by omega, dn_pt]
        rfl
      · rw [if_neg (fun c => hp (hi.mpr c))]
        simp only [hp]
        unfold pwT
        generalize (mD b nw).1 = c
        generalize tnM b nw = t
        generalize fpM b nw = fp
        simp only [Bool.false_eq_true, if_false, List.append_assoc]
        rw [show (fp - fp + 1).toNat = 1 by omega, dn_one]
        rfl
  · rw [if_neg hf, if_neg (fun c => hf ((fin_iff b nw).mpr c)), nn_nm hf]
