theorem i32_in (x : Int32) : -2147483648 ≤ x.toInt ∧ x.toInt < 2147483648 := ⟨Int32.le_toInt x, Int32.toInt_lt x⟩
theorem paper_0 (g : Nat → Int32) : PaperIs g ([] : List Nat) := ⟨by decide, fun j hj => absurd hj (Nat.not_lt_zero j), fun x hx => by cases hx⟩
theorem mpap_0 (g : Nat → Int32) : MPap g ([] : List Nat) := ⟨by decide, fun j hj => absurd hj (Nat.not_lt_zero j), fun x hx => by cases hx⟩
section TB
variable {p : Program} {l : Launch} {e : Env} {R : Room} {s : State} {m : MethodId} {args : Array Value} {below : List Frame} {meth : Method} {c : Code} {H : Heap} {locs : List Loc} {cells slots : Nat} {Q : State → Prop}
variable {cc : ByteArray} {pc : Nat} {ls : Array Slot} {rest : List Value}
theorem tb_in (hx : p.tables.exec = Jvm.exec) (hb : c.code = cc) {dflt lo hi : Int} {offs : Array Int} {len : Nat} {r off : Int} {tgt : Nat} (hdg : decode cc pc = .ok (.tableswitch dflt lo hi offs, len)) (hr : -2147483648 ≤ r ∧ r < 2147483648) (h1 : lo ≤ r) (h2 : r ≤ hi) (ho : offs[(r - lo).toNat]? = some off) (ht : (pc : Int) + off = (tgt : Int))
    (k : W p l e R s m args below meth c H locs cells slots Q (F0 m tgt ls rest)) : W p l e R s m args below meth c H locs cells slots Q (F0 m pc ls (.int (iZ r) :: rest)) :=
  lv_tableIn hx hb hdg (by rw [iZ_t hr]; omega) (by rw [iZ_t hr]; omega) (by rw [iZ_t hr]; exact ho) ht k
theorem tb_out (hx : p.tables.exec = Jvm.exec) (hb : c.code = cc) {dflt lo hi : Int} {offs : Array Int} {len : Nat} {r : Int} {tgt : Nat} (hdg : decode cc pc = .ok (.tableswitch dflt lo hi offs, len)) (hr : -2147483648 ≤ r ∧ r < 2147483648) (h : r < lo ∨ hi < r) (ht : (pc : Int) + dflt = (tgt : Int))
    (k : W p l e R s m args below meth c H locs cells slots Q (F0 m tgt ls rest)) : W p l e R s m args below meth c H locs cells slots Q (F0 m pc ls (.int (iZ r) :: rest)) :=
  lv_tableOut hx hb hdg (by rw [iZ_t hr]; exact h) ht k
end TB
