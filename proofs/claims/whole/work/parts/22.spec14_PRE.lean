/-! the texts of the answers -/
theorem drZ_spec : ∀ (k c : Nat) (t : Int), 0 < c → ∃ i : Nat, i ≤ k ∧ (drZ k c t).2 = t + (i : Int) ∧ c = (drZ k c t).1 * 10 ^ i ∧ 0 < (drZ k c t).1 ∧ (c < 10 ^ (k + 1) → ¬ (drZ k c t).1 % 10 = 0) := by
  intro k
  induction k with
  | zero =>
    intro c t h
    refine ⟨0, Nat.le_refl 0, ?_, ?_, h, ?_⟩
    · show t = t + ((0 : Nat) : Int); omega
    · show c = c * 10 ^ 0; omega
    · intro q; show ¬ c % 10 = 0; rw [Nat.zero_add, Nat.pow_one] at q; omega
  | succ k ih =>
    intro c t h
    by_cases q : c % 10 = 0
    · obtain ⟨i, h1, h2, h3, h4, h5⟩ := ih (c / 10) (t + 1) (by omega)
      rw [drZ, if_pos q]
      refine ⟨i + 1, by omega, by rw [h2]; omega, ?_, h4, fun z => h5 (by rw [Nat.pow_succ] at z; omega)⟩
      rw [Nat.pow_succ, ← Nat.mul_assoc, ← h3]
      omega
    · rw [drZ, if_neg q]
      exact ⟨0, by omega, by show t = t + ((0 : Nat) : Int); omega, by show c = c * 10 ^ 0; omega, h, fun _ => q⟩
theorem sub_mod_ge {B sz ut : Nat} (h : ut ∣ B) (hu : 0 < ut) (hB : B ≤ sz) : B ≤ sz - sz % ut := by
  obtain ⟨x, rfl⟩ := h
  have h1 : x ≤ sz / ut := (Nat.le_div_iff_mul_le hu).mpr (by rw [Nat.mul_comm]; exact hB)
  have h2 := Nat.mul_le_mul_left ut h1
  have h3 := Nat.div_add_mod sz ut
  omega
theorem nOU_ge {sz : Nat} {sc : Bool} {lo : Nat} {lc : Bool} {hi : Nat} {hc bc : Bool} {ut : Nat} (hu : ut ∣ 100000000000000000) (hp : 0 < ut) (h : 100000000000000000 ≤ sz) : 100000000000000000 ≤ nOU sz sc lo lc hi hc bc ut := by
  have h1 := sub_mod_ge hu hp h
  unfold nOU
  split
  · split <;> omega
  · split
    · omega
    · split
      · omega
      · decide
theorem nLL_ge {sz : Nat} {sc : Bool} {lo : Nat} {lc : Bool} {hi : Nat} {hc bc : Bool} (h : 100000000000000000 ≤ sz) : ∀ (k j : Nat), 1 ≤ j → 100000000000000000 ≤ nLL sz sc lo lc hi hc bc j k := by
  intro k
  induction k with
  | zero => intro j _; exact h
  | succ k ih =>
    intro j hj
    rw [nLL]
    split
    · exact ih (j + 1) (by omega)
    · exact nOU_ge (show 10 ^ (18 - j) ∣ 10 ^ 17 from Nat.pow_dvd_pow 10 (by omega)) (Nat.pow_pos (by decide)) h
theorem nOU_dvd {sz : Nat} {sc : Bool} {lo : Nat} {lc : Bool} {hi : Nat} {hc bc : Bool} {ut : Nat} : nOU sz sc lo lc hi hc bc ut = nNo ∨ ut ∣ nOU sz sc lo lc hi hc bc ut := by
  have h0 : ut ∣ sz - sz % ut := by
    have h3 := Nat.div_add_mod sz ut
    exact ⟨sz / ut, by omega⟩
  have h1 : ut ∣ sz - sz % ut + ut := Nat.dvd_add h0 (Nat.dvd_refl ut)
  unfold nOU
  split
  · split
    · exact Or.inr h1
    · exact Or.inr h0
  · split
    · exact Or.inr h0
    · split
      · exact Or.inr h1
      · exact Or.inl rfl
theorem nLL_ten {sz : Nat} {sc : Bool} {lo : Nat} {lc : Bool} {hi : Nat} {hc bc : Bool} : ∀ (k j : Nat), j + k ≤ 18 → nLL sz sc lo lc hi hc bc j k = sz ∨ nLL sz sc lo lc hi hc bc j k % 10 = 0 := by
  intro k
  induction k with
  | zero => intro j _; exact Or.inl rfl
  | succ k ih =>
    intro j hj
    rw [nLL]
    split
    · exact ih (j + 1) (by omega)
    · rename_i q
      rcases nOU_dvd (sz := sz) (sc := sc) (lo := lo) (lc := lc) (hi := hi) (hc := hc) (bc := bc) (ut := 10 ^ (18 - j)) with z | z
      · exact absurd z q
      · refine Or.inr (Nat.mod_eq_zero_of_dvd (Nat.dvd_trans ?_ z))
        exact (show 10 ^ 1 ∣ 10 ^ (18 - j) from Nat.pow_dvd_pow 10 (by omega))
theorem sV_ge {b : Nat} {nw : Bool} (h : ¬ fM b nw = 0) : 1000000000000000000 ≤ sV b nw := by
  unfold sV qV exQ
  have h1 : 1 ≤ (if 0 ≤ exT (fM b nw) (fW b nw) then 2 ^ (exT (fM b nw) (fW b nw)).toNat else 5 ^ (-(exT (fM b nw) (fW b nw))).toNat) := by
    split <;> exact Nat.pow_pos (by decide)
  generalize (if 0 ≤ exT (fM b nw) (fW b nw) then 2 ^ (exT (fM b nw) (fW b nw)).toNat else 5 ^ (-(exT (fM b nw) (fW b nw))).toNat) = x at h1 ⊢
  have h2 : 1 * 10 ^ 18 * 1 ≤ x * 10 ^ 18 * (4 * fM b nw) := Nat.mul_le_mul (Nat.mul_le_mul_right _ h1) (by omega)
  exact h2
theorem sz_ge {b : Nat} {nw : Bool} (h : ¬ fM b nw = 0) : 100000000000000000 ≤ sV b nw / 10 ^ cK b nw := by
  have h1 := sV_ge h
  unfold cK cutN
  obtain ⟨d, e1, e2, e3⟩ := nfig_pos (v := sV b nw) (by omega)
  have hd : 18 ≤ d + 1 := by
    rcases Nat.lt_or_ge (d + 1) 18 with q | q
    · have : 10 ^ (d + 1) ≤ 10 ^ 18 := p10_le (by omega)
      exact absurd (Nat.lt_of_lt_of_le e3 this) (by show ¬ sV b nw < 1000000000000000000; omega)
    · exact q
  rw [e1, Nat.le_div_iff_mul_le (Nat.pow_pos (by decide))]
  have e : 100000000000000000 * 10 ^ (d + 1 - 18) = 10 ^ d := by
    rw [show (100000000000000000 : Nat) = 10 ^ 17 from rfl, ← Nat.pow_add]; congr 1; omega
  rw [e]; exact e2
theorem exSc_in (sg : Nat) {z : Int} (h : -1074 ≤ z ∧ z ≤ 971) : 18 ≤ exSc sg z ∧ exSc sg z ≤ 1094 := by
  have := exT_in (sg := sg) h
  unfold exSc
  split <;> omega
theorem shD_in {b : Nat} {nw : Bool} (hf : fSz b nw < fI nw) (h : ¬ fM b nw = 0) : (0 < (shD b nw).1 ∧ (shD b nw).1 < 1000000000000000000) ∧ (-1100 < (shD b nw).2 ∧ (shD b nw).2 < 1100) ∧ (1 ≤ nfig (shD b nw).1 ∧ nfig (shD b nw).1 ≤ 18) ∧ ¬ (shD b nw).1 % 10 = 0 := by
  have hge : 100000000000000000 ≤ co0 b nw := nLL_ge (sz_ge h) 16 2 (by decide)
  have hlt : co0 b nw < 1010000000000000000 := nLL_lt (cut_lt _) 16 2 (by decide)
  have hk := (room_k b nw hf).1
  have hsc := exSc_in (fM b nw) (fW_fin hf)
  obtain ⟨i, h1, h2, h3, h4, h5⟩ := drZ_spec 18 (co0 b nw) ((cK b nw : Int) - exSc (fM b nw) (fW b nw)) (by omega)
  have h6 := h5 (by show co0 b nw < 10000000000000000000; omega)
  rw [← shD_eq] at h2 h3 h4 h6
  have hc : (shD b nw).1 < 1000000000000000000 := by
    cases i with
    | zero =>
      rw [Nat.pow_zero, Nat.mul_one] at h3
      rcases nLL_ten (sz := sV b nw / 10 ^ cK b nw) (sc := cutB (sV b nw) (cK b nw)) (lo := lV b nw / 10 ^ cK b nw) (lc := cutB (lV b nw) (cK b nw)) (hi := hV b nw / 10 ^ cK b nw) (hc := cutB (hV b nw) (cK b nw)) (bc := decide (fM b nw % 2 = 0)) 16 2 (by decide) with q | q
      · have := cut_lt (sV b nw)
        change co0 b nw = _ at q
        rw [← h3, q]; exact this
      · change co0 b nw % 10 = 0 at q
        rw [h3] at q
        exact absurd q h6
    | succ i =>
      have hp : 0 < 10 ^ i := Nat.pow_pos (by decide)
      rw [Nat.pow_succ, ← Nat.mul_assoc] at h3
      have : (shD b nw).1 * 1 ≤ (shD b nw).1 * 10 ^ i := Nat.mul_le_mul_left _ hp
      omega
  obtain ⟨d, e1, e2, e3⟩ := nfig_pos h4
  have hn : nfig (shD b nw).1 ≤ 18 := nfig_le (n := 18) hc
  have hi : (i : Int) ≤ 18 := by omega
  rcases Nat.lt_or_ge (cK b nw) 1070 with q | q
  · exact ⟨⟨h4, hc⟩, ⟨by omega, by omega⟩, ⟨by omega, hn⟩, h6⟩
  · exact ⟨⟨h4, hc⟩, ⟨by omega, by omega⟩, ⟨by omega, hn⟩, h6⟩
def nnT (b : Nat) (nw : Bool) : List Nat := if fI nw < fSz b nw then txB.getD 3 [] else sgT b nw ++ txB.getD 4 []
noncomputable def fpD (b : Nat) (nw : Bool) : Int := (shD b nw).2 + ((nfig (shD b nw).1 : Nat) : Int) - 1
noncomputable def ssT (b : Nat) (nw : Bool) : List Nat := if fM b nw = 0 then txB.getD 5 [] else if -3 ≤ fpD b nw ∧ fpD b nw < 7 then plT (shD b nw).1 (shD b nw).2 (fpD b nw) else pwT (shD b nw).1 (shD b nw).2 (fpD b nw)
noncomputable def prT (b : Nat) (nw : Bool) : List Nat := if fSz b nw < fI nw then sgT b nw ++ ssT b nw else nnT b nw
def hfT (b : Nat) (nw : Bool) : List Nat := if nw = true then hxT (fF b true * 2) 6 else hxT (fF b false) 13
def hsT (b : Nat) (nw : Bool) : List Nat := if fM b nw = 0 then txB.getD 6 [] else (if fE b nw = 0 then txB.getD 7 [] else txB.getD 8 []) ++ hfT b nw ++ [112] ++ numT (fW b nw + ((fP nw : Nat) : Int))
def hdT (b : Nat) (nw : Bool) : List Nat := if fSz b nw < fI nw then sgT b nw ++ hsT b nw else nnT b nw
/-! fixed, scientific -/
theorem dnT_pt (v : Nat) (o pt hi : Int) (j : Nat) : (dnT (ptG v o pt) hi j).length = j + if hi - (j : Int) < pt ∧ pt ≤ hi then 1 else 0 := by
  induction j with
  | zero => rw [dnT, if_neg (by omega)]; rfl
  | succ j ih =>
    rw [dnT, List.length_append, ih]
    unfold ptG
    rw [List.length_append, List.length_singleton]
    by_cases q : hi - (j : Int) = pt
    · rw [if_pos q, if_neg (by omega), if_pos (by omega)]; show j + 0 + (1 + 1) = j + 1 + 1; omega
    · rw [if_neg q]
      by_cases q2 : hi - (j : Int) < pt ∧ pt ≤ hi
      · rw [if_pos q2, if_pos (by omega)]; show j + 1 + (0 + 1) = j + 1 + 1; omega
      · rw [if_neg q2, if_neg (by omega)]; show j + 0 + (0 + 1) = j + 1 + 0; omega
theorem dnT_pt_le (v : Nat) (o pt hi : Int) (j : Nat) : (dnT (ptG v o pt) hi j).length ≤ j + 1 := by
  rw [dnT_pt]; split <;> omega
def exV (b : Nat) (nw : Bool) : Nat := sV b nw
def exC (b : Nat) (nw : Bool) : Int := exSc (fM b nw) (fW b nw)
def fxT (v : Nat) (sc : Int) (pl w : Nat) : List Nat := dnT (ptG (rnd v (sc - pl) w) 0 (sc - 1)) (max ((nfig (rnd v (sc - pl) w) : Int) - 1) sc) (max ((nfig (rnd v (sc - pl) w) : Int) - 1) sc - (sc - pl) + 1).toNat
theorem two_1024 : (2 : Nat) ^ 1024 < 10 ^ 309 := by decide +kernel
theorem exV_lt {b : Nat} {nw : Bool} (h : fSz b nw < fI nw) : sV b nw < 10 ^ (309 + (exC b nw).toNat) := by
  have hw := fW_fin h
  have hm := fM_lt b nw
  have hT := exT_in (sg := fM b nw) hw
  unfold sV qV exQ exC exSc
  by_cases q : 0 ≤ exT (fM b nw) (fW b nw)
  · rw [if_pos q, if_pos q, Nat.pow_add, show (18 : Int).toNat = 18 from rfl]
    have h1 : 2 ^ (exT (fM b nw) (fW b nw)).toNat * (4 * fM b nw) ≤ 2 ^ 969 * 2 ^ 55 := Nat.mul_le_mul (Nat.pow_le_pow_right (by decide) (by omega)) (by show 4 * fM b nw ≤ 36028797018963968; omega)
    have h2 : (2 : Nat) ^ 969 * 2 ^ 55 = 2 ^ 1024 := by rw [← Nat.pow_add]
    have h3 := two_1024
    calc _ = 2 ^ (exT (fM b nw) (fW b nw)).toNat * (4 * fM b nw) * 10 ^ 18 := by rw [Nat.mul_assoc, Nat.mul_comm (10 ^ 18), ← Nat.mul_assoc]
      _ < 10 ^ 309 * 10 ^ 18 := Nat.mul_lt_mul_of_pos_right (by omega) (by decide)
  · rw [if_neg q, if_neg q]
    have e : (18 - exT (fM b nw) (fW b nw)).toNat = 18 + (-(exT (fM b nw) (fW b nw))).toNat := by omega
    rw [e]
    generalize (-(exT (fM b nw) (fW b nw))).toNat = x
    have h1 : 5 ^ x ≤ 10 ^ x := Nat.pow_le_pow_left (by decide) x
    have h2 : 4 * fM b nw < 10 ^ 17 := by show _ < 100000000000000000; omega
    have h3 : 5 ^ x * 10 ^ 18 * (4 * fM b nw) ≤ 10 ^ x * 10 ^ 18 * 10 ^ 17 := Nat.mul_le_mul (Nat.mul_le_mul_right _ h1) (Nat.le_of_lt h2)
    have h4 : 10 ^ x * 10 ^ 18 * 10 ^ 17 < 10 ^ (309 + (18 + x)) := by
      rw [← Nat.pow_add, ← Nat.pow_add]; exact Nat.pow_lt_pow_right (by decide) (by omega)
    exact Nat.lt_of_le_of_lt h3 h4
theorem rnd_lt {v n : Nat} {z : Int} {w : Nat} (h : v < 10 ^ n) (hz : z ≤ n) : rnd v z w < 10 ^ (n + 1) := by
  unfold rnd
  have e : 10 ^ (n + 1) = 10 ^ n * 10 := Nat.pow_succ ..
  split
  · have : 10 ^ z.toNat ≤ 10 ^ n := p10_le (by omega)
    omega
  · omega
theorem room_123 : 5 ^ 1076 * 10 ^ 18 * 36028797018963970 < 1000000000 ^ 123 := by decide +kernel
theorem sV_room {b : Nat} {nw : Bool} (h : fSz b nw < fI nw) : sV b nw < 1000000000 ^ 123 := by
  have := fM_lt b nw
  refine Nat.lt_of_le_of_lt (Nat.mul_le_mul (Nat.mul_le_mul_right _ (exB_le (sg := fM b nw) (fW_fin h))) (show 4 * fM b nw ≤ 36028797018963970 by omega)) room_123
/-- the power behind an e, with two figures at least -/
def e2T (z : Int) : List Nat := [101] ++ [if z < 0 then 45 else 43] ++ (if z.natAbs < 10 then [48] else []) ++ numT ((z.natAbs : Nat) : Int)
def scP (rv : Nat) (sc : Int) : Int := if rv = 0 then 0 else (nfig rv : Int) - 1 - sc
/-- the i-th of the figures from the place hi on, with the point ahead of the second -/
def scT (v : Nat) (sc : Int) (fg w : Nat) : List Nat :=
  dnT (ptG (rnd v ((nfig v : Int) - fg) w) 0 ((nfig (rnd v ((nfig v : Int) - fg) w) : Int) - 1 - 1)) ((nfig (rnd v ((nfig v : Int) - fg) w) : Int) - 1) fg ++ e2T (scP (rnd v ((nfig v : Int) - fg) w) sc)
/-! eight letters of the paper -/
def eiT (t : List Nat) (i : Int) : Nat → Nat
  | 0 => 0
  | k + 1 => eiT t i k + (if 0 ≤ i + (k : Int) ∧ i + (k : Int) < (t.length : Int) then t.getD (i + (k : Int)).toNat 0 else 0) * 2 ^ (8 * k)
theorem getD_lt {t : List Nat} (h : ∀ x ∈ t, x < 128) (k : Nat) : t.getD k 0 < 128 := by
  rw [List.getD_eq_getElem?_getD]
  cases e : t[k]? with
  | none => exact (by decide : 0 < 128)
  | some x => exact h x (List.mem_of_getElem? e)
theorem eiT_lt {t : List Nat} (h : ∀ x ∈ t, x < 128) (i : Int) (k : Nat) : eiT t i k < 2 ^ (8 * k) := by
  induction k with
  | zero => exact (by decide : (0 : Nat) < 1)
  | succ k ih =>
    rw [eiT]
    have h1 : (if 0 ≤ i + (k : Int) ∧ i + (k : Int) < (t.length : Int) then t.getD (i + (k : Int)).toNat 0 else 0) ≤ 127 := by
      split
      · have := getD_lt h (i + (k : Int)).toNat; omega
      · omega
    have h2 := Nat.mul_le_mul_right (2 ^ (8 * k)) h1
    have e : 2 ^ (8 * (k + 1)) = 2 ^ (8 * k) * 256 := by rw [Nat.mul_succ, Nat.pow_add]
    omega
theorem eiT_or {t : List Nat} (h : ∀ x ∈ t, x < 128) (i : Int) (k x : Nat) (hx : x < 256) : eiT t i k ||| (x * 2 ^ (8 * k)) = eiT t i k + x * 2 ^ (8 * k) := by
  have h1 := Nat.two_pow_add_eq_or_of_lt (i := 8 * k) (b := eiT t i k) (eiT_lt h i k) x
  rw [Nat.or_comm, Nat.mul_comm x, ← h1, Nat.add_comm]
theorem room_m : (1000000000 : Nat) ^ 123 = 10 ^ 1107 := by rw [show (1000000000 : Nat) = 10 ^ 9 from rfl, ← Nat.pow_mul]
theorem hxT_len (fr nf : Nat) : (hxT fr nf).length ≤ nf := by
  unfold hxT
  have := dnT_len (hi := (((nf - 1 : Nat) : Int))) (hxG_len fr) (nf - hxL fr 0 (nf - 1))
  omega
theorem and_255n {x : Nat} (h : x < 128) : x &&& 255 = x := by
  rw [show (255 : Nat) = 2 ^ 8 - 1 from rfl, Nat.and_two_pow_sub_one_eq_mod, Nat.mod_eq_of_lt (by omega)]
