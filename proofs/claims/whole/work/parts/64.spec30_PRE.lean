/-! what is thrown, and caught by the law's own methods -/
abbrev xX (cls : String) : String → State → State → Prop := vx_X (fun _ : Unit => True) (fun E _ _ => E = cls) (fun _ => False)
abbrev nQv : Array Value → State → Outcome → State → Prop := va_Qv (fun _ : Unit => False) (fun _ _ => True) (fun _ => False)
abbrev nQi : Array Value → State → Outcome → State → Prop := va_Qi (fun (_ : Int32) (_ : Unit) => False) (fun _ _ => True) (fun _ => False)
abbrev nQl : Array Value → State → Outcome → State → Prop := va_Ql (fun (_ : Int64) (_ : Unit) => False) (fun _ _ => True) (fun _ => False)
def thN : List String := ["java/lang/RuntimeException", "java/lang/Exception"]
theorem metx_go {l : Launch} {y : MethodName} {cc : ByteArray} {maxL : Nat} {ret : Option FieldType} {rm : Room} {Qc : Array Value → State → Outcome → State → Prop} {cls : String} {av : List Value} {D : va_G} {Z : Nat → Nat} {ws : va_W} {tys : List (ClassId × FieldType)} {sz : Nat} (hy : plainName y.cls = true)
    (body : ∀ (p : Program) (e : Env) (s : State) (m : MethodId) (below : List Frame) (meth : Method) (c : Code) (A : Nat → Prop), cxA p s m av.toArray meth c cc maxL y.cls ret → (∀ x ∈ c.exceptionTable.toList, False) → s.heap.size = sz → (∀ q : Nat, s.heap.size ≤ q → A q) → Ev Z A s s.heap → va_K D classes tys s → va_P D classes ws s.heap → va_D A ws →
      W p l e rm s m av.toArray below meth c s.heap [] 0 0 (vx_MQ below Qc (xX cls) av.toArray s 1 6 (fun _ => False)) (entryFrame m av.toArray maxL)) :
    vx_Met l y (.code y cc maxL ret :: gT) rm (va_Pc av (cpre D Z ws tys sz)) Qc (xX cls) 1 6 (fun _ => False) := by
  refine vx_ofW (cc := cc) (maxL := maxL) (ret := ret) hy rfl ?_
  intro p e s m args below meth c s₁ B hml ht hv
  obtain ⟨rfl, hsz, hP, hK, hD0, hE⟩ := hv
  have hts0 := atoms_spec (ws := .code y cc maxL ret :: gT) B.pre
  have hown : s.vm.findClass y.cls = some m.cls := findClass_of_methodNamed B.named
  exact body p e s m below meth c (va_A ws sz) ⟨B.exec, B.bytes, hml, hown, fun w h => hts0 w (List.mem_cons_of_mem _ h), B.returns, B.notSynchronized⟩ ht hsz (fun q h => Or.inr (by rw [← hsz]; exact h)) hE hK hP hD0.self
theorem met_ofWH {l : Launch} {y : MethodName} {ws ws' : List Cond} {rm : Room} {Pc : Array Value → State → Prop} {Qc : Array Value → State → Outcome → State → Prop} {mc ms : Nat} {free : Addr → Prop} {cc : ByteArray} {maxL : Nat} {ret : Option FieldType} {hh : List (Nat × Nat × Nat × Nat)}
    (hy : plainName y.cls = true) (hw : ws = Cond.codeWith y cc maxL ret hh :: ws')
    (body : ∀ p e s m args below meth c s₁, BodyLoose p l y (headSpec ws rm) cc maxL ret e s m args below meth c s₁ → c.maxLocals = maxL → Pc args s →
      W p l e (headSpec ws rm).room s m args below meth c s.heap [] 0 0 (MQ below Qc args s mc ms free) (entryFrame m args maxL)) : Met l y ws rm Pc Qc mc ms free := by
  refine MetFree.of_bodyS (code := cc) (maxLocals := maxL) (ret := ret) hy ?_ ?_
  · intro args s m h hn
    obtain ⟨m9, meth, c, hn9, h1, h2, h3, h4, -, h5, h6, -⟩ := Cond.codeWith_spec (atoms_spec (ws := ws) h _ (by rw [hw]; exact List.mem_cons_self))
    cases hn.symm.trans hn9
    exact ⟨meth, c, h1, h2, h3, h4, h5, h6⟩
  · intro p e s m args below meth c s₁ B hml hP _
    have hh0 : s₁.heap = s.heap := by rw [B.state]; rfl
    obtain ⟨t, a1, o, b1, b2, b3⟩ := body p e s m args below meth c s₁ B hml hP s₁ hh0 (Stand.of_body B)
    exact ⟨t, o, a1, b1, b2, ⟨b3.1, b3.2⟩⟩
theorem met_goH {l : Launch} {y : MethodName} {cc : ByteArray} {maxL : Nat} {ret : Option FieldType} {hh : List (Nat × Nat × Nat × Nat)} {rm : Room} {Qf : (Nat → Prop) → Array Value → State → Outcome → State → Prop} {mc ms : Nat} {ff : (Nat → Prop) → Addr → Prop} {av : List Value} {D : va_G} {Z : Nat → Nat} {ws : va_W} {tys : List (ClassId × FieldType)} {sz : Nat} (hy : plainName y.cls = true)
    (body : ∀ (p : Program) (e : Env) (s : State) (m : MethodId) (below : List Frame) (meth : Method) (c : Code) (A : Nat → Prop), cxA p s m av.toArray meth c cc maxL y.cls ret → c.exceptionTable.toList = tableOf hh → s.heap.size = sz → (∀ q : Nat, s.heap.size ≤ q → A q) → Ev Z A s s.heap → va_K D classes tys s → va_P D classes ws s.heap → va_D A ws →
      W p l e rm s m av.toArray below meth c s.heap [] 0 0 (MQ below (Qf A) av.toArray s mc ms (ff A)) (entryFrame m av.toArray maxL)) :
    Met l y (.codeWith y cc maxL ret hh :: gT) rm (va_Pc av (cpre D Z ws tys sz)) (Qf (va_A ws sz)) mc ms (ff (va_A ws sz)) := by
  refine met_ofWH (cc := cc) (maxL := maxL) (ret := ret) (hh := hh) hy rfl ?_
  intro p e s m args below meth c s₁ B hml hv
  obtain ⟨rfl, hsz, hP, hK, hD0, hE⟩ := hv
  have hts0 := atoms_spec (ws := .codeWith y cc maxL ret hh :: gT) B.pre
  have hown : s.vm.findClass y.cls = some m.cls := findClass_of_methodNamed B.named
  exact body p e s m below meth c (va_A ws sz) ⟨B.exec, B.bytes, hml, hown, fun w h => hts0 w (List.mem_cons_of_mem _ h), B.returns, B.notSynchronized⟩ (vx_table (x := y) (hh := hh) B (hts0 _ List.mem_cons_self)) hsz (fun q h => Or.inr (by rw [← hsz]; exact h)) hE hK hP hD0.self
section KX
variable {p : Program} {l : Launch} {e : Env} {R : Room} {s : State} {m : MethodId} {args : Array Value} {below : List Frame} {meth : Method} {c : Code} {H : Heap} {locs : List Loc} {cells slots : Nat} {Q : State → Prop}
variable {cc : ByteArray} {pc : Nat} {ls : Array Slot} {rest st0 : List Value} {nL : Nat} {own : String} {rt : Option FieldType} {A : Nat → Prop} {D : va_G} {Z : Nat → Nat} {ws wc wr : va_W} {tys tc tr : List (ClassId × FieldType)}
variable {y : MethodName} {bytes : ByteArray} {maxL mc ms n index : Nat} {ret : Option FieldType} {rm : Room} {Qc : Array Value → State → Outcome → State → Prop} {XC : String → State → State → Prop} {free : Addr → Prop} {As : List Value} {b : Nat}
theorem kx_S (C : cxA p s m args meth c cc nL own rt) (hM : vx_Met l y (.code y bytes maxL ret :: gT) rm (va_Pc As (cpre D Z wc tc H.size)) Qc XC mc ms free) (k0 : Cond.code y bytes maxL ret ∈ gT) (k1 : Cond.methodLink own index y ∈ gT) (k2 : Cond.static y ∈ gT) (k3 : Cond.initialized y.cls ∈ gT)
    (hd : y.cls ≠ "java/lang/invoke/MethodHandle" ∧ y.cls ≠ "java/lang/invoke/VarHandle" ∧ (parseMethodDescriptor y.desc).map (fun d => d.parameters.length) = some n) (hrc : rm.cells = mc) (hrs : rm.slots = ms) (hR : rm.frames + 1 ≤ R.frames ∧ 8 + (maxL + 11) + rm.locals ≤ R.locals)
    (hP : va_P D classes wc H) (hD : va_D A wc) (hK : va_K D classes tc s) (hE : Ev Z A s s.heap) (hS : va_S A s.heap H locs) (hF : ∀ q, va_A wc H.size q → A q)
    (hn : As.length = n) (hsize : ls.size = nL) (hstack : st0 = As.reverse ++ rest) (hW : (rest.map fun v => v.category).sum ≤ 8) (hdg : decode cc pc = .ok (.invokestatic index, 3)) (hf : cells + mc ≤ R.cells ∧ slots + ms ≤ R.slots) :
    vx_Run p l e R s m args below meth c H locs cells slots mc ms (F0 m pc ls st0) rest (Qc As.toArray) XC free := by
  have cb := kcb (R := R) C k0 k1 k3 hrc hrs hd hR
  obtain ⟨hx, hb, hml, hown, hts, hr, hlocks⟩ := C
  exact vx_runS (As := As) (rest := rest) ⟨hx, hb, hml, hown, hts⟩ hM ⟨cb, hts _ k2⟩ ⟨cpre_blind, cpre_at hP hK hD hE hS hF⟩ rfl hn hsize hstack (lv_room hW) hdg hf
theorem kx_V {C0 : String} {ci i0 : Nat} {T0 : u_T} {N0 : Nat} {fs : List Value} (C : cxA p s m args meth c cc nL own rt) (hM : vx_Met l y (.code y bytes maxL ret :: gT) rm (va_Pc (.ref b :: As) (cpre D Z wc tc H.size)) Qc XC mc ms free) (k0 : Cond.code y bytes maxL ret ∈ gT) (k1 : Cond.methodLink own index y ∈ gT) (k2 : Cond.instanceMethod y ∈ gT) (k4 : Cond.selects C0 y y ∈ gT) (k3 : Cond.initialized y.cls ∈ gT)
    (hd : y.cls ≠ "java/lang/invoke/MethodHandle" ∧ y.cls ≠ "java/lang/invoke/VarHandle" ∧ (parseMethodDescriptor y.desc).map (fun d => d.parameters.length) = some n) (hrc : rm.cells = mc) (hrs : rm.slots = ms) (hR : rm.frames + 1 ≤ R.frames ∧ 8 + (maxL + 11) + rm.locals ≤ R.locals)
    (hP : va_P D classes wc H) (hD : va_D A wc) (hK : va_K D classes tc s) (hE : Ev Z A s s.heap) (hS : va_S A s.heap H locs) (hF : ∀ q, va_A wc H.size q → A q)
    (hc0 : classes[ci]? = some (C0, T0, N0)) (he0 : wc[i0]? = some (b, .inr (ci, fs)))
    (hn : As.length = n) (hsize : ls.size = nL) (hstack : st0 = As.reverse ++ .ref b :: rest) (hW : (rest.map fun v => v.category).sum ≤ 8) (hdg : decode cc pc = .ok (.invokevirtual index, 3)) (hf : cells + mc ≤ R.cells ∧ slots + ms ≤ R.slots) :
    vx_Run p l e R s m args below meth c H locs cells slots mc ms (F0 m pc ls st0) rest (Qc (Value.ref b :: As).toArray) XC free := by
  have cb := kcb (R := R) C k0 k1 k3 hrc hrs hd hR
  obtain ⟨hx, hb, hml, hown, hts, hr, hlocks⟩ := C
  exact vx_runV (C := C0) (As := As) (rest := rest) ⟨hx, hb, hml, hown, hts⟩ hM ⟨cb, hts _ k2, hts _ k4⟩ ⟨cpre_blind, va_recv hK hP (ci := ci) (q0 := i0) hc0 he0, cpre_at hP hK hD hE hS hF⟩ rfl hn hsize hstack (lv_room hW) hdg hf
/-- a call that throws, in a method that doesn't catch -/
theorem kx_out {cls : String} {a : Array Value} (hr : vx_Run p l e R s m args below meth c s.heap [] 0 0 1 6 (F0 m pc ls st0) rest (nQv a) (xX cls) (fun _ => False)) (hT : ∀ x ∈ c.exceptionTable.toList, False) (hlocks : meth.locks = false) :
    W p l e R s m args below meth c s.heap [] 0 0 (vx_MQ below Qc (xX cls) args s 1 6 (fun _ => False)) (F0 m pc ls st0) := by
  refine vx_callv (A0 := fun _ => False) (H0 := s.heap) hr va_S.rf (fun q _ h => h) (fun q h => h) (fun q _ h => h) (fun E ce q9 u t H1 locs1 ht hal hpu hbx hz hk hS1 hce hcv hcl => ?_) (fun u t H1 locs1 ht hal hp hB hz hk hS1 => hp.elim)
  exact vx_out (fun x hx => (hT x hx).elim) hlocks hce hcv hcl (fun t2 h2 _ => ⟨(), trivial, hbx, by rw [h2]; exact hz, fun q h1 _ => by rw [h2]; exact hk q h1 (fun z => z)⟩) hS1.2.2 (Nat.le_refl _) (Nat.le_refl _)
/-- a call that throws, its throw caught -/
theorem kx_i {cls : String} {a : Array Value} (hr : vx_Run p l e R s m args below meth c s.heap [] 0 0 1 6 (F0 m pc ls st0) rest (nQi a) (xX cls) (fun _ => False)) (hP : va_P D classes ws s.heap) (hS : va_S A s.heap s.heap [])
    (kk : ∀ (ce : Cell) (q9 : Addr) (H1 : Heap) (locs1 : List Loc), va_P D classes ws H1 → va_S A s.heap H1 locs1 → H1[q9]? = some ce → ce.vm = .none → s.vm.findClass cls = some ce.cls → vx_W p l e R s m args below meth c H1 locs1 1 6 Q (F0 m pc ls rest) q9) :
    W p l e R s m args below meth c s.heap [] 0 0 Q (F0 m pc ls st0) := by
  refine vx_calli (A0 := A) (H0 := s.heap) hr hS (fun q _ h => h.elim) (fun q h => h.elim) (fun q _ h => h.elim) (fun E ce q9 u t H1 locs1 ht hal hpu hbx hz hk hS1 hce hcv hcl => ?_) (fun r u t H1 locs1 ht hal hp hB hz hk hS1 => hp.elim)
  have hE2 : E = cls := hbx
  subst hE2
  exact kk ce q9 H1 locs1 (hP.kept (fun k q hq => hk q.1 (vx_lt hP hq) (fun z => z))) hS1 hce hcv hcl
theorem kx_l {cls : String} {a : Array Value} (hr : vx_Run p l e R s m args below meth c s.heap [] 0 0 1 6 (F0 m pc ls st0) rest (nQl a) (xX cls) (fun _ => False)) (hP : va_P D classes ws s.heap) (hS : va_S A s.heap s.heap [])
    (kk : ∀ (ce : Cell) (q9 : Addr) (H1 : Heap) (locs1 : List Loc), va_P D classes ws H1 → va_S A s.heap H1 locs1 → H1[q9]? = some ce → ce.vm = .none → s.vm.findClass cls = some ce.cls → vx_W p l e R s m args below meth c H1 locs1 1 6 Q (F0 m pc ls rest) q9) :
    W p l e R s m args below meth c s.heap [] 0 0 Q (F0 m pc ls st0) := by
  refine vx_calll (A0 := A) (H0 := s.heap) hr hS (fun q _ h => h.elim) (fun q h => h.elim) (fun q _ h => h.elim) (fun E ce q9 u t H1 locs1 ht hal hpu hbx hz hk hS1 hce hcv hcl => ?_) (fun r u t H1 locs1 ht hal hp hB hz hk hS1 => hp.elim)
  have hE2 : E = cls := hbx
  subst hE2
  exact kk ce q9 H1 locs1 (hP.kept (fun k q hq => hk q.1 (vx_lt hP hq) (fun z => z))) hS1 hce hcv hcl
theorem atI_good : ∀ w ∈ (vx_atS "FloatWriter" 129 "java/lang/IllegalArgumentException" thN).filter goodWord, w ∈ gT := fun w hw => List.mem_filter.mpr ⟨(show ∀ w ∈ (vx_atS "FloatWriter" 129 "java/lang/IllegalArgumentException" thN).filter goodWord, w ∈ lw_tbl by decide +kernel) w hw, (List.mem_filter.mp hw).2⟩
theorem atI_no : ∀ w ∈ (vx_atS "FloatWriter" 129 "java/lang/IllegalArgumentException" thN).filter (fun w => !goodWord w), w ∈ nwL := by decide +kernel
theorem atI_ot : ∀ w ∈ Cond.classLink "FloatWriter" 125 "java/lang/IllegalArgumentException" :: Cond.initialized "java/lang/IllegalArgumentException" :: vx_atS "FloatWriter" 129 "java/lang/IllegalArgumentException" thN, vx_ot w = true := by decide +kernel
theorem atA_good : ∀ w ∈ (vx_atS "FloatWriter" 138 "java/lang/ArithmeticException" thN).filter goodWord, w ∈ gT := fun w hw => List.mem_filter.mpr ⟨(show ∀ w ∈ (vx_atS "FloatWriter" 138 "java/lang/ArithmeticException" thN).filter goodWord, w ∈ lw_tbl by decide +kernel) w hw, (List.mem_filter.mp hw).2⟩
theorem atA_no : ∀ w ∈ (vx_atS "FloatWriter" 138 "java/lang/ArithmeticException" thN).filter (fun w => !goodWord w), w ∈ nwL := by decide +kernel
theorem atA_ot : ∀ w ∈ Cond.classLink "FloatWriter" 134 "java/lang/ArithmeticException" :: Cond.initialized "java/lang/ArithmeticException" :: vx_atS "FloatWriter" 138 "java/lang/ArithmeticException" thN, vx_ot w = true := by decide +kernel
theorem nw_at (hE : Ev Z A s s.heap) : ∀ w ∈ nwL, w.before args s = true := fun w hw => va_tabs ((show ∀ w ∈ nwL, w.onTables = true by decide +kernel) w hw) rfl (hE.2.2.2.2.2.1 w hw)
theorem fit_th : ∀ n ∈ thN, Bundle.fit n = true := by decide +kernel
theorem thr_I (C : cxA p s m args meth c cc nL "FloatWriter" rt) (hl : l.stackTraces = false) (hT : ∀ x ∈ c.exceptionTable.toList, False) (hE : Ev Z A s s.heap) (k : Nat) (hk : k < 9) (k1 : Cond.classLink "FloatWriter" 125 "java/lang/IllegalArgumentException" ∈ gT) (k2 : Cond.initialized "java/lang/IllegalArgumentException" ∈ gT) (hsize : ls.size = nL)
    (d0 : decode cc pc = .ok (.new 125, 3)) (d3 : decode cc (pc + 3) = .ok (.dup, 1)) (d4 : decode cc (pc + 4) = .ok (.ldc (txI.getD k 0), 2)) (d6 : decode cc (pc + 6) = .ok (.invokespecial 129, 3)) (d9 : decode cc (pc + 9) = .ok (.athrow, 1))
    (hf : 6 ≤ R.frames) (hlo : 82 + (rest.map fun v => v.category).sum ≤ R.locals) (hc : 1 ≤ R.cells) (hs : 6 ≤ R.slots) :
    W p l e R s m args below meth c s.heap [] 0 0 (vx_MQ below Qc (xX "java/lang/IllegalArgumentException") args s 1 6 (fun _ => False)) (F0 m pc ls rest) := by
  obtain ⟨hx, hb, hml, hown, hts, hr, hlocks⟩ := C
  refine vx_throwS (A := A) (names := thN) (text := txS.getD k "") (sa := Z (1 + 2 * k)) hx hb hl hown (by decide +kernel) fit_th (hts _ k1) (hts _ k2) (hE.txt k hk) (vx_hat (fun w hw => hts _ (atI_good w hw)) atI_no (nw_at hE)) atI_ot hE.thr.1 hE.thr.2 va_S.rf (hsize.trans hml.symm) d0 d3 d4 d6 d9 (fun x hx => (hT x hx).elim) ?_ ?_ ?_ ?_ hlocks (fun t _ hz hq => ⟨(), trivial, rfl, hz, fun q h _ => hq q h⟩) (fun z hz => nomatch hz) (Nat.le_refl _) (Nat.le_refl _)
  · show 2 + 3 < R.frames; omega
  · show _ + (13 * (2 + 1) + 43) ≤ R.locals; omega
  · show 0 + 1 ≤ R.cells; omega
  · show 0 + 6 ≤ R.slots; omega
theorem thr_A (C : cxA p s m args meth c cc nL "FloatWriter" rt) (hl : l.stackTraces = false) (hT : ∀ x ∈ c.exceptionTable.toList, False) (hE : Ev Z A s s.heap) (k : Nat) (hk : k < 9) (k1 : Cond.classLink "FloatWriter" 134 "java/lang/ArithmeticException" ∈ gT) (k2 : Cond.initialized "java/lang/ArithmeticException" ∈ gT) (hsize : ls.size = nL)
    (d0 : decode cc pc = .ok (.new 134, 3)) (d3 : decode cc (pc + 3) = .ok (.dup, 1)) (d4 : decode cc (pc + 4) = .ok (.ldc (txI.getD k 0), 2)) (d6 : decode cc (pc + 6) = .ok (.invokespecial 138, 3)) (d9 : decode cc (pc + 9) = .ok (.athrow, 1))
    (hf : 6 ≤ R.frames) (hlo : 82 + (rest.map fun v => v.category).sum ≤ R.locals) (hc : 1 ≤ R.cells) (hs : 6 ≤ R.slots) :
    W p l e R s m args below meth c s.heap [] 0 0 (vx_MQ below Qc (xX "java/lang/ArithmeticException") args s 1 6 (fun _ => False)) (F0 m pc ls rest) := by
  obtain ⟨hx, hb, hml, hown, hts, hr, hlocks⟩ := C
  refine vx_throwS (A := A) (names := thN) (text := txS.getD k "") (sa := Z (1 + 2 * k)) hx hb hl hown (by decide +kernel) fit_th (hts _ k1) (hts _ k2) (hE.txt k hk) (vx_hat (fun w hw => hts _ (atA_good w hw)) atA_no (nw_at hE)) atA_ot hE.thr.1 hE.thr.2 va_S.rf (hsize.trans hml.symm) d0 d3 d4 d6 d9 (fun x hx => (hT x hx).elim) ?_ ?_ ?_ ?_ hlocks (fun t _ hz hq => ⟨(), trivial, rfl, hz, fun q h _ => hq q h⟩) (fun z hz => nomatch hz) (Nat.le_refl _) (Nat.le_refl _)
  · show 2 + 3 < R.frames; omega
  · show _ + (13 * (2 + 1) + 43) ≤ R.locals; omega
  · show 0 + 1 ≤ R.cells; omega
  · show 0 + 6 ≤ R.slots; omega
/-- the handler of the table's first row -/
theorem cat_0 {hh : List (Nat × Nat × Nat × Nat)} {x1 : Nat × Nat × Nat × Nat} {suf : List (Nat × Nat × Nat × Nat)} {cls : String} {ce : Cell} {q : Addr} (C : cxA p s m args meth c cc nL own rt) (ht : c.exceptionTable.toList = tableOf hh) (hs : hh = x1 :: suf) (hcv : covers ⟨x1.1, x1.2.1, x1.2.2.1, x1.2.2.2⟩ pc = true) (h0 : x1.2.2.2 ≠ 0)
    (kl : Cond.classLink own x1.2.2.2 cls ∈ gT) (hcast : (Cond.castable cls cls).before args s = true) (hcell : H[q]? = some ce) (hv : ce.vm = .none) (hcl : s.vm.findClass cls = some ce.cls)
    (kk : W p l e R s m args below meth c H locs cells slots Q (F0 m x1.2.2.1 ls [.ref q])) : vx_W p l e R s m args below meth c H locs cells slots Q (F0 m pc ls rest) q := by
  obtain ⟨hx, hb, hml, hown, hts, hr, hlocks⟩ := C
  exact vx_catch (own := own) (name := cls) hown [] ⟨x1.1, x1.2.1, x1.2.2.1, x1.2.2.2⟩ (tableOf suf) (by rw [ht, hs]; rfl) (fun z hz => nomatch hz) hcv h0 (hts _ kl) hcast hcell hv hcl kk
/-- the handler of the table's second row -/
theorem cat_1 {hh : List (Nat × Nat × Nat × Nat)} {x0 x1 : Nat × Nat × Nat × Nat} {suf : List (Nat × Nat × Nat × Nat)} {cls nm : String} {ce : Cell} {q : Addr} (C : cxA p s m args meth c cc nL own rt) (ht : c.exceptionTable.toList = tableOf hh) (hs : hh = x0 :: x1 :: suf) (hcv : covers ⟨x1.1, x1.2.1, x1.2.2.1, x1.2.2.2⟩ pc = true) (h00 : x0.2.2.2 ≠ 0) (h0 : x1.2.2.2 ≠ 0)
    (kn : Cond.classLink own x0.2.2.2 nm ∈ gT) (hnc : va_Nc cls nm s) (kl : Cond.classLink own x1.2.2.2 cls ∈ gT) (hcast : (Cond.castable cls cls).before args s = true) (hcell : H[q]? = some ce) (hv : ce.vm = .none) (hcl : s.vm.findClass cls = some ce.cls)
    (kk : W p l e R s m args below meth c H locs cells slots Q (F0 m x1.2.2.1 ls [.ref q])) : vx_W p l e R s m args below meth c H locs cells slots Q (F0 m pc ls rest) q := by
  obtain ⟨hx, hb, hml, hown, hts, hr, hlocks⟩ := C
  refine vx_catch (own := own) (name := cls) hown [⟨x0.1, x0.2.1, x0.2.2.1, x0.2.2.2⟩] ⟨x1.1, x1.2.1, x1.2.2.1, x1.2.2.2⟩ (tableOf suf) (by rw [ht, hs]; rfl) (fun z hz => ?_) hcv h0 (hts _ kl) hcast hcell hv hcl kk
  have hz2 : z = ⟨x0.1, x0.2.1, x0.2.2.1, x0.2.2.2⟩ := by simpa using hz
  subst hz2
  exact Or.inr ⟨h00, nm, hts _ kn, hnc⟩
/-- a call of one of the law's own methods, with a table of handlers -/
theorem kr_SW {hh : List (Nat × Nat × Nat × Nat)} (C : cxA p s m args meth c cc nL own rt) (hM : Met l y (.codeWith y bytes maxL ret hh :: gT) rm (va_Pc As (cpre D Z wc tc H.size)) Qc mc ms free) (k0 : Cond.codeWith y bytes maxL ret hh ∈ gT) (k1 : Cond.methodLink own index y ∈ gT) (k2 : Cond.static y ∈ gT) (k3 : Cond.initialized y.cls ∈ gT)
    (hd : y.cls ≠ "java/lang/invoke/MethodHandle" ∧ y.cls ≠ "java/lang/invoke/VarHandle" ∧ (parseMethodDescriptor y.desc).map (fun d => d.parameters.length) = some n) (hrc : rm.cells = mc) (hrs : rm.slots = ms) (hR : rm.frames + 1 ≤ R.frames ∧ 8 + (maxL + 11) + rm.locals ≤ R.locals)
    (hP : va_P D classes wc H) (hD : va_D A wc) (hK : va_K D classes tc s) (hE : Ev Z A s s.heap) (hS : va_S A s.heap H locs) (hF : ∀ q, va_A wc H.size q → A q)
    (hn : As.length = n) (hsize : ls.size = nL) (hstack : st0 = As.reverse ++ rest) (hW : (rest.map fun v => v.category).sum ≤ 8) (hdg : decode cc pc = .ok (.invokestatic index, 3)) (hf : cells + mc ≤ R.cells ∧ slots + ms ≤ R.slots) :
    va_Run p l e R s m args below meth c H locs cells slots mc ms (F0 m pc ls st0) rest (Qc As.toArray) free := by
  obtain ⟨hx, hb, hml, hown, hts, hr, hlocks⟩ := C
  have hG : GoodIn gT (va_wsS own index y (.codeWith y bytes maxL ret hh :: gT)) := fun w hw => by
    have key : ∀ w ∈ gT, w ∈ gT ∧ ((w.onTables && w.keeps) = true ∨ ∃ ty, w = .arrayClass ty) := fun w h => ⟨h, good_of_word (List.mem_filter.mp h).2⟩
    simp only [va_wsS, List.mem_append, List.mem_cons, List.not_mem_nil, or_false] at hw
    rcases hw with (rfl | rfl | rfl) | rfl | h
    · exact key _ k1
    · exact key _ k2
    · exact key _ k3
    · exact key _ k0
    · exact key _ h
  exact vx_runSW (As := As) (rest := rest) ⟨hx, hb, hml, hown, hts⟩ hM (vx_cwSW n hts hG rfl hrc hrs hd hR) ⟨cpre_blind, cpre_at hP hK hD hE hS hF⟩ rfl hn hsize hstack (lv_room hW) hdg hf
end KX
theorem pwD_in {b : Nat} {nw : Bool} (hf : fSz b nw < fI nw) : -2147483648 ≤ pwD b nw ∧ pwD b nw < 2147483648 := by
  unfold pwD
  by_cases q : fM b nw = 0
  · rw [if_pos q]; omega
  · rw [if_neg q]
    have := (shD_in hf q).2.1
    omega
