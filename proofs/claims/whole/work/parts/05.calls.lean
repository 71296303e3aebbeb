/-! what stands outside the cells of a contract, and stays: the table of the powers of ten, Throwable's two statics, the text constants. Z: where they lie -/
def txI : List Nat := [127, 132, 136, 171, 176, 178, 200, 202, 204]
def txS : List String := ["narrow bits above the 32 lowest ones", "places, figures or way out of range", "not finite", "NaN", "Infinity", "0.0", "0x0.0p0", "0x0.", "0x1."]
def txB : List (List Nat) := [[110, 97, 114, 114, 111, 119, 32, 98, 105, 116, 115, 32, 97, 98, 111, 118, 101, 32, 116, 104, 101, 32, 51, 50, 32, 108, 111, 119, 101, 115, 116, 32, 111, 110, 101, 115], [112, 108, 97, 99, 101, 115, 44, 32, 102, 105, 103, 117, 114, 101, 115, 32, 111, 114, 32, 119, 97, 121, 32, 111, 117, 116, 32, 111, 102, 32, 114, 97, 110, 103, 101], [110, 111, 116, 32, 102, 105, 110, 105, 116, 101], [78, 97, 78], [73, 110, 102, 105, 110, 105, 116, 121], [48, 46, 48], [48, 120, 48, 46, 48, 112, 48], [48, 120, 48, 46], [48, 120, 49, 46]]
def txL : List Nat := txB.map List.length
def txY : List (List Int32) := txB.map (fun l => l.map (fun n => Int32.ofNat n))
def nwL : List Cond := [.methodLinkNest R_Short 39 y_FW_significand R_FW, .methodLinkNest R_Short 43 y_FW_binaryPower R_FW, .methodLinkNest R_Exact 33 y_FW_tenTo R_FW, .methodLinkNest R_Big 36 y_FW_tenTo R_FW, .methodLinkNest R_Short 77 y_FW_isCloserBelow R_FW, .methodLinkNest R_Short 33 y_FW_tenTo R_FW, .methodLinkNest R_Sheet 36 y_FW_tenTo R_FW, .declares ⟨"java/lang/RuntimeException", "<init>", "(Ljava/lang/String;)V"⟩, .declares ⟨"java/lang/Exception", "<init>", "(Ljava/lang/String;)V"⟩, .declares ⟨"java/lang/Throwable", "<init>", "(Ljava/lang/String;)V"⟩, .castable "java/lang/IllegalArgumentException" "java/lang/IllegalArgumentException", .castable "java/lang/ArithmeticException" "java/lang/ArithmeticException"]
theorem nw_warm {s U : State} (hW : s.WarmedH U.vm) (h : ∀ w ∈ nwL, va_Nw w s) : ∀ w ∈ nwL, va_Nw w U := by
  unfold nwL at h ⊢
  exact List.forall_mem_cons.mpr ⟨va_Nw.warmM hW (h _ (List.mem_of_getElem? (i := 0) rfl)), List.forall_mem_cons.mpr ⟨va_Nw.warmM hW (h _ (List.mem_of_getElem? (i := 1) rfl)), List.forall_mem_cons.mpr ⟨va_Nw.warmM hW (h _ (List.mem_of_getElem? (i := 2) rfl)), List.forall_mem_cons.mpr ⟨va_Nw.warmM hW (h _ (List.mem_of_getElem? (i := 3) rfl)), List.forall_mem_cons.mpr ⟨va_Nw.warmM hW (h _ (List.mem_of_getElem? (i := 4) rfl)), List.forall_mem_cons.mpr ⟨va_Nw.warmM hW (h _ (List.mem_of_getElem? (i := 5) rfl)), List.forall_mem_cons.mpr ⟨va_Nw.warmM hW (h _ (List.mem_of_getElem? (i := 6) rfl)), List.forall_mem_cons.mpr ⟨va_Nw.warmD hW (h _ (List.mem_of_getElem? (i := 7) rfl)), List.forall_mem_cons.mpr ⟨va_Nw.warmD hW (h _ (List.mem_of_getElem? (i := 8) rfl)), List.forall_mem_cons.mpr ⟨va_Nw.warmD hW (h _ (List.mem_of_getElem? (i := 9) rfl)), List.forall_mem_cons.mpr ⟨va_Nw.warmC hW (h _ (List.mem_of_getElem? (i := 10) rfl)), List.forall_mem_cons.mpr ⟨va_Nw.warmC hW (h _ (List.mem_of_getElem? (i := 11) rfl)), fun _ q => absurd q List.not_mem_nil⟩⟩⟩⟩⟩⟩⟩⟩⟩⟩⟩⟩
theorem nw_same {s U : State} (hv : U.vm = s.vm) (h : ∀ w ∈ nwL, va_Nw w s) : ∀ w ∈ nwL, va_Nw w U := by
  unfold nwL at h ⊢
  exact List.forall_mem_cons.mpr ⟨va_Nw.same rfl hv.symm (h _ (List.mem_of_getElem? (i := 0) rfl)), List.forall_mem_cons.mpr ⟨va_Nw.same rfl hv.symm (h _ (List.mem_of_getElem? (i := 1) rfl)), List.forall_mem_cons.mpr ⟨va_Nw.same rfl hv.symm (h _ (List.mem_of_getElem? (i := 2) rfl)), List.forall_mem_cons.mpr ⟨va_Nw.same rfl hv.symm (h _ (List.mem_of_getElem? (i := 3) rfl)), List.forall_mem_cons.mpr ⟨va_Nw.same rfl hv.symm (h _ (List.mem_of_getElem? (i := 4) rfl)), List.forall_mem_cons.mpr ⟨va_Nw.same rfl hv.symm (h _ (List.mem_of_getElem? (i := 5) rfl)), List.forall_mem_cons.mpr ⟨va_Nw.same rfl hv.symm (h _ (List.mem_of_getElem? (i := 6) rfl)), List.forall_mem_cons.mpr ⟨va_Nw.same rfl hv.symm (h _ (List.mem_of_getElem? (i := 7) rfl)), List.forall_mem_cons.mpr ⟨va_Nw.same rfl hv.symm (h _ (List.mem_of_getElem? (i := 8) rfl)), List.forall_mem_cons.mpr ⟨va_Nw.same rfl hv.symm (h _ (List.mem_of_getElem? (i := 9) rfl)), List.forall_mem_cons.mpr ⟨va_Nw.same rfl hv.symm (h _ (List.mem_of_getElem? (i := 10) rfl)), List.forall_mem_cons.mpr ⟨va_Nw.same rfl hv.symm (h _ (List.mem_of_getElem? (i := 11) rfl)), fun _ q => absurd q List.not_mem_nil⟩⟩⟩⟩⟩⟩⟩⟩⟩⟩⟩⟩
def Ev (Z : Nat → Nat) (A : Nat → Prop) (U : State) (H : Heap) : Prop :=
  (va_Z "FloatWriter" "TENS" "[J" (.ref (Z 0)) A U H ∧ va_T .long (Z 0) 19 (fun j => .long (lN (10 ^ j))) A U H) ∧
  (vx_Zq Bundle.tN "UNASSIGNED_STACK" Bundle.steD A U H ∧ vx_Zq Bundle.tN "SUPPRESSED_SENTINEL" Bundle.listD A U H) ∧
  (va_Z "java/lang/String" "COMPACT_STRINGS" "Z" (.int 1) A U H ∧ va_Zq "jdk/internal/util/Preconditions" "SIOOBE_FORMATTER" "Ljava/util/function/BiFunction;" A U H) ∧
  vk_S 9 txL txY (fun i => Z (1 + 2 * i)) (fun i => Z (2 + 2 * i)) A U H ∧
  (∀ i, i < 9 → vk_R "FloatWriter" (txI.getD i 0) (txS.getD i "") (Z (1 + 2 * i)) U) ∧ (∀ w ∈ nwL, va_Nw w U) ∧ va_Nc "java/lang/ArithmeticException" "java/lang/IllegalArgumentException" U
theorem Ev.tens {Z : Nat → Nat} {A : Nat → Prop} {U : State} {H : Heap} (h : Ev Z A U H) : va_Z "FloatWriter" "TENS" "[J" (.ref (Z 0)) A U H ∧ va_T .long (Z 0) 19 (fun j => .long (lN (10 ^ j))) A U H := h.1
theorem Ev.moved {Z : Nat → Nat} {A : Nat → Prop} {u U : State} {H : Heap} (hW : u.WarmedH U.vm) (h : Ev Z A u H) : Ev Z A U H := by
  obtain ⟨⟨h1, h2⟩, ⟨h3, h4⟩, ⟨h5, h9⟩, h6, h7, h8, h10⟩ := h
  exact ⟨⟨va_Z.moved hW.alike h1, va_T.moved hW.alike h2⟩, ⟨vx_Zq.moved hW.alike h3, vx_Zq.moved hW.alike h4⟩, ⟨va_Z.moved hW.alike h5, va_Zq.moved hW.alike h9⟩, vk_S.moved hW.alike h6, fun i hi => vk_R.warm hW (h7 i hi), nw_warm hW h8, va_Nc.moved hW.alike h10⟩
theorem Ev.same {Z : Nat → Nat} {A : Nat → Prop} {u U : State} {H : Heap} (hv : U.vm = u.vm) (h : Ev Z A u H) : Ev Z A U H := by
  obtain ⟨⟨h1, h2⟩, ⟨h3, h4⟩, ⟨h5, h9⟩, h6, h7, h8, h10⟩ := h
  have ha : u.vm.Alike U.vm := by rw [hv]; exact Vm.Alike.refl u.vm
  exact ⟨⟨va_Z.moved ha h1, va_T.moved ha h2⟩, ⟨vx_Zq.moved ha h3, vx_Zq.moved ha h4⟩, ⟨va_Z.moved ha h5, va_Zq.moved ha h9⟩, vk_S.moved ha h6, fun i hi => vk_R.same hv (h7 i hi), nw_same hv h8, va_Nc.moved ha h10⟩
theorem Ev.kept {Z : Nat → Nat} {A : Nat → Prop} {U : State} {H H1 : Heap} (h : Ev Z A U H) (hq : ∀ a : Nat, a < H.size → ¬ A a → H1[a]? = H[a]?) : Ev Z A U H1 := by
  obtain ⟨⟨h1, h2⟩, ⟨h3, h4⟩, ⟨h5, h9⟩, h6, h7, h8, h10⟩ := h
  exact ⟨⟨h1.kept hq, h2.kept hq⟩, ⟨h3.kept hq, h4.kept hq⟩, ⟨h5.kept hq, h9.kept hq⟩, h6.kept hq, h7, h8, h10⟩
theorem Ev.narrow {Z : Nat → Nat} {A B : Nat → Prop} {U : State} {H : Heap} (h : Ev Z A U H) (hAB : ∀ q, B q → A q) : Ev Z B U H := by
  obtain ⟨⟨h1, h2⟩, ⟨h3, h4⟩, ⟨h5, h9⟩, h6, h7, h8, h10⟩ := h
  exact ⟨⟨h1.narrow hAB, h2.narrow hAB⟩, ⟨h3.narrow hAB, h4.narrow hAB⟩, ⟨h5.narrow hAB, h9.narrow hAB⟩, h6.narrow hAB, h7, h8, h10⟩
theorem Ev.nw {Z : Nat → Nat} {A : Nat → Prop} {U : State} {H : Heap} (h : Ev Z A U H) (k : Nat) {w : Cond} (hk : nwL[k]? = some w) : va_Nw w U := h.2.2.2.2.2.1 w (List.mem_of_getElem? hk)
theorem Ev.cs {Z : Nat → Nat} {A : Nat → Prop} {U : State} {H : Heap} (h : Ev Z A U H) : va_Z "java/lang/String" "COMPACT_STRINGS" "Z" (.int 1) A U H := h.2.2.1.1
theorem Ev.si {Z : Nat → Nat} {A : Nat → Prop} {U : State} {H : Heap} (h : Ev Z A U H) : va_Zq "jdk/internal/util/Preconditions" "SIOOBE_FORMATTER" "Ljava/util/function/BiFunction;" A U H := h.2.2.1.2
theorem Ev.str {Z : Nat → Nat} {A : Nat → Prop} {U : State} {H : Heap} (h : Ev Z A U H) : vk_S 9 txL txY (fun i => Z (1 + 2 * i)) (fun i => Z (2 + 2 * i)) A U H := h.2.2.2.1
theorem Ev.txt {Z : Nat → Nat} {A : Nat → Prop} {U : State} {H : Heap} (h : Ev Z A U H) (i : Nat) (hi : i < 9) : vk_R "FloatWriter" (txI.getD i 0) (txS.getD i "") (Z (1 + 2 * i)) U := h.2.2.2.2.1 i hi
theorem Ev.thr {Z : Nat → Nat} {A : Nat → Prop} {U : State} {H : Heap} (h : Ev Z A U H) : vx_Zq Bundle.tN "UNASSIGNED_STACK" Bundle.steD A U H ∧ vx_Zq Bundle.tN "SUPPRESSED_SENTINEL" Bundle.listD A U H := h.2.1
theorem Ev.nc {Z : Nat → Nat} {A : Nat → Prop} {U : State} {H : Heap} (h : Ev Z A U H) : va_Nc "java/lang/ArithmeticException" "java/lang/IllegalArgumentException" U := h.2.2.2.2.2.2
/-! what every contract here asks and leaves: the cells ws (and the arrays' kinds tys) at a heap of sz cells; what stands outside (Ev) -/
def cpre (D : va_G) (Z : Nat → Nat) (ws : va_W) (tys : List (ClassId × FieldType)) (sz : Nat) (U : State) : Prop := U.heap.size = sz ∧ va_P D classes ws U.heap ∧ va_K D classes tys U ∧ va_D (fun _ => True) ws ∧ Ev Z (va_A ws sz) U U.heap
def cpost (D : va_G) (A : Nat → Prop) (ws : va_W) (tys : List (ClassId × FieldType)) (t : State) : Prop := va_P D classes ws t.heap ∧ va_K D classes tys t ∧ va_D A ws
def cxA (p : Program) (s : State) (m : MethodId) (args : Array Value) (meth : Method) (c : Code) (cc : ByteArray) (nL : Nat) (own : String) (rt : Option FieldType) : Prop :=
  p.tables.exec = Jvm.exec ∧ c.code = cc ∧ c.maxLocals = nL ∧ s.vm.findClass own = some m.cls ∧ (∀ w ∈ gT, w.before args s = true) ∧ meth.sig.returnType = rt ∧ meth.locks = false
theorem cpre_blind {av : List Value} {D : va_G} {Z : Nat → Nat} {ws : va_W} {tys : List (ClassId × FieldType)} {sz : Nat} : FrameBlind (va_Pc av (cpre D Z ws tys sz)) := fun a U g mk q => by
  obtain ⟨q0, q1, qP, qK, qD, qE⟩ := q
  exact ⟨q0, q1, qP, va_K.moved (u := U) (U := U.calling g mk a) (Vm.Alike.refl U.vm) qK, qD, Ev.same (u := U) (U := U.calling g mk a) rfl qE⟩
theorem cpre_at {av : List Value} {s : State} {H : Heap} {locs : List Loc} {A0 A1 : Nat → Prop} {D : va_G} {Z : Nat → Nat} {ws : va_W} {tys : List (ClassId × FieldType)} (hP : va_P D classes ws H) (hK : va_K D classes tys s) (hD : va_D A1 ws) (hE : Ev Z A0 s s.heap) (hS : va_S A0 s.heap H locs) (hF : ∀ q, va_A ws H.size q → A0 q) (U : State) (hU : U.heap = H) (hW : s.WarmedH U.vm) : va_Pc av (cpre D Z ws tys H.size) av.toArray U :=
  ⟨rfl, by rw [hU], by rw [hU]; exact hP, va_K.moved hW.alike hK, hD.weaken (fun _ _ _ _ => trivial), by
    rw [hU]
    exact (Ev.kept (Ev.moved hW hE) (fun a h1 h2 => hS.2.1 a h1 h2)).narrow hF⟩
theorem met_go {l : Launch} {y : MethodName} {cc : ByteArray} {maxL : Nat} {ret : Option FieldType} {rm : Room} {Qf : (Nat → Prop) → Array Value → State → Outcome → State → Prop} {mc ms : Nat} {ff : (Nat → Prop) → Addr → Prop} {av : List Value} {D : va_G} {Z : Nat → Nat} {ws : va_W} {tys : List (ClassId × FieldType)} {sz : Nat} (hy : plainName y.cls = true)
    (body : ∀ (p : Program) (e : Env) (s : State) (m : MethodId) (below : List Frame) (meth : Method) (c : Code) (A : Nat → Prop), cxA p s m av.toArray meth c cc maxL y.cls ret → meth.name = y.name → s.heap.size = sz → (∀ q : Nat, s.heap.size ≤ q → A q) → Ev Z A s s.heap → va_K D classes tys s → va_P D classes ws s.heap → va_D A ws →
      W p l e rm s m av.toArray below meth c s.heap [] 0 0 (MQ below (Qf A) av.toArray s mc ms (ff A)) (entryFrame m av.toArray maxL)) :
    Met l y (.code y cc maxL ret :: gT) rm (va_Pc av (cpre D Z ws tys sz)) (Qf (va_A ws sz)) mc ms (ff (va_A ws sz)) := by
  refine Met.ofW (cc := cc) (maxL := maxL) (ret := ret) hy rfl ?_
  intro p e s m args below meth c s₁ B hml hv
  obtain ⟨rfl, hsz, hP, hK, hD0, hE⟩ := hv
  have hts0 := atoms_spec (ws := .code y cc maxL ret :: gT) B.pre
  have hown : s.vm.findClass y.cls = some m.cls := findClass_of_methodNamed B.named
  have hin : meth.name = y.name := (name_of_methodNamed B.named B.method).1
  exact body p e s m below meth c (va_A ws sz) ⟨B.exec, B.bytes, hml, hown, fun w h => hts0 w (List.mem_cons_of_mem _ h), B.returns, B.notSynchronized⟩ hin hsz (fun q h => Or.inr (by rw [← hsz]; exact h)) hE hK hP hD0.self
/-- the words of every method: all of the tables' -/
theorem gi {b : Cond} (hb : b ∈ gT) : GoodIn gT (b :: gT) := fun w hw => by
  have key : ∀ w ∈ gT, w ∈ gT ∧ ((w.onTables && w.keeps) = true ∨ ∃ ty, w = .arrayClass ty) := fun w h => ⟨h, good_of_word (List.mem_filter.mp h).2⟩
  rcases List.mem_cons.mp hw with rfl | h
  · exact key _ hb
  · exact key _ h
section KR
variable {p : Program} {l : Launch} {e : Env} {R : Room} {s : State} {m : MethodId} {args : Array Value} {below : List Frame} {meth : Method} {c : Code} {H : Heap} {locs : List Loc} {cells slots : Nat} {Q : State → Prop}
variable {cc : ByteArray} {pc : Nat} {ls : Array Slot} {rest st0 : List Value} {nL : Nat} {own : String} {rt : Option FieldType} {A : Nat → Prop} {D : va_G} {Z : Nat → Nat} {ws wc wr : va_W} {tys tc tr : List (ClassId × FieldType)}
variable {y : MethodName} {bytes : ByteArray} {maxL mc ms n index : Nat} {ret : Option FieldType} {rm : Room} {Qc : Array Value → State → Outcome → State → Prop} {free : Addr → Prop} {As : List Value} {b : Nat}
theorem kcb (C : cxA p s m args meth c cc nL own rt) (k0 : Cond.code y bytes maxL ret ∈ gT) (k1 : Cond.methodLink own index y ∈ gT) (k3 : Cond.initialized y.cls ∈ gT) (hrc : rm.cells = mc) (hrs : rm.slots = ms)
    (hd : y.cls ≠ "java/lang/invoke/MethodHandle" ∧ y.cls ≠ "java/lang/invoke/VarHandle" ∧ (parseMethodDescriptor y.desc).map (fun d => d.parameters.length) = some n) (hR : rm.frames + 1 ≤ R.frames ∧ 8 + (maxL + 11) + rm.locals ≤ R.locals) :
    CallB R s args own index y bytes maxL ret (.code y bytes maxL ret :: gT) rm mc ms n := by
  obtain ⟨hx, hb, hml, hown, hts, hr, hlocks⟩ := C
  exact callB_of n hts (gi k0) rfl hrc hrs (hts _ k3) (hts _ k1) hd hR
/-- a static method of the same class -/
theorem kr_S (C : cxA p s m args meth c cc nL own rt) (hM : Met l y (.code y bytes maxL ret :: gT) rm (va_Pc As (cpre D Z wc tc H.size)) Qc mc ms free) (k0 : Cond.code y bytes maxL ret ∈ gT) (k1 : Cond.methodLink own index y ∈ gT) (k2 : Cond.static y ∈ gT) (k3 : Cond.initialized y.cls ∈ gT)
    (hd : y.cls ≠ "java/lang/invoke/MethodHandle" ∧ y.cls ≠ "java/lang/invoke/VarHandle" ∧ (parseMethodDescriptor y.desc).map (fun d => d.parameters.length) = some n) (hrc : rm.cells = mc) (hrs : rm.slots = ms) (hR : rm.frames + 1 ≤ R.frames ∧ 8 + (maxL + 11) + rm.locals ≤ R.locals)
    (hP : va_P D classes wc H) (hD : va_D A wc) (hK : va_K D classes tc s) (hE : Ev Z A s s.heap) (hS : va_S A s.heap H locs) (hF : ∀ q, va_A wc H.size q → A q)
    (hn : As.length = n) (hsize : ls.size = nL) (hstack : st0 = As.reverse ++ rest) (hW : (rest.map fun v => v.category).sum ≤ 8) (hdg : decode cc pc = .ok (.invokestatic index, 3)) (hf : cells + mc ≤ R.cells ∧ slots + ms ≤ R.slots) :
    va_Run p l e R s m args below meth c H locs cells slots mc ms (F0 m pc ls st0) rest (Qc As.toArray) free := by
  have cb := kcb (R := R) C k0 k1 k3 hrc hrs hd hR
  obtain ⟨hx, hb, hml, hown, hts, hr, hlocks⟩ := C
  exact va_runS (As := As) (rest := rest) ⟨hx, hb, hml, hown, hts⟩ hM ⟨cb, hts _ k2⟩ ⟨cpre_blind, cpre_at hP hK hD hE hS hF⟩ rfl hn hsize hstack (lv_room hW) hdg hf
/-- a private static method of the nest's host, from another of its classes -/
theorem kr_SN {host : String} (C : cxA p s m args meth c cc nL own rt) (hM : Met l y (.code y bytes maxL ret :: gT) rm (va_Pc As (cpre D Z wc tc H.size)) Qc mc ms free) (k0 : Cond.code y bytes maxL ret ∈ gT) (k1 : va_Nw (.methodLinkNest own index y host) s) (k2 : Cond.static y ∈ gT) (k3 : Cond.initialized y.cls ∈ gT)
    (hd : y.cls ≠ "java/lang/invoke/MethodHandle" ∧ y.cls ≠ "java/lang/invoke/VarHandle" ∧ (parseMethodDescriptor y.desc).map (fun d => d.parameters.length) = some n) (hrc : rm.cells = mc) (hrs : rm.slots = ms) (hR : rm.frames + 1 ≤ R.frames ∧ 8 + (maxL + 11) + rm.locals ≤ R.locals)
    (hP : va_P D classes wc H) (hD : va_D A wc) (hK : va_K D classes tc s) (hE : Ev Z A s s.heap) (hS : va_S A s.heap H locs) (hF : ∀ q, va_A wc H.size q → A q)
    (hn : As.length = n) (hsize : ls.size = nL) (hstack : st0 = As.reverse ++ rest) (hW : (rest.map fun v => v.category).sum ≤ 8) (hdg : decode cc pc = .ok (.invokestatic index, 3)) (hf : cells + mc ≤ R.cells ∧ slots + ms ≤ R.slots) :
    va_Run p l e R s m args below meth c H locs cells slots mc ms (F0 m pc ls st0) rest (Qc As.toArray) free := by
  obtain ⟨hx, hb, hml, hown, hts, hr, hlocks⟩ := C
  exact va_runSN (As := As) (rest := rest) (host := host) ⟨hx, hb, hml, hown, hts⟩ hM ⟨va_cnB n hts (gi k0) rfl hrc hrs k1 (hts _ k3) hd hR, hts _ k2, trivial⟩ ⟨cpre_blind, cpre_at hP hK hD hE hS hF⟩ rfl hn hsize hstack (lv_room hW) hdg hf
/-- a method of an object -/
theorem kr_V {C0 : String} {ci i0 : Nat} {T0 : u_T} {N0 : Nat} {fs : List Value} (C : cxA p s m args meth c cc nL own rt) (hM : Met l y (.code y bytes maxL ret :: gT) rm (va_Pc (.ref b :: As) (cpre D Z wc tc H.size)) Qc mc ms free) (k0 : Cond.code y bytes maxL ret ∈ gT) (k1 : Cond.methodLink own index y ∈ gT) (k2 : Cond.instanceMethod y ∈ gT) (k4 : Cond.selects C0 y y ∈ gT) (k3 : Cond.initialized y.cls ∈ gT)
    (hd : y.cls ≠ "java/lang/invoke/MethodHandle" ∧ y.cls ≠ "java/lang/invoke/VarHandle" ∧ (parseMethodDescriptor y.desc).map (fun d => d.parameters.length) = some n) (hrc : rm.cells = mc) (hrs : rm.slots = ms) (hR : rm.frames + 1 ≤ R.frames ∧ 8 + (maxL + 11) + rm.locals ≤ R.locals)
    (hP : va_P D classes wc H) (hD : va_D A wc) (hK : va_K D classes tc s) (hE : Ev Z A s s.heap) (hS : va_S A s.heap H locs) (hF : ∀ q, va_A wc H.size q → A q)
    (hc0 : classes[ci]? = some (C0, T0, N0)) (he0 : wc[i0]? = some (b, .inr (ci, fs)))
    (hn : As.length = n) (hsize : ls.size = nL) (hstack : st0 = As.reverse ++ .ref b :: rest) (hW : (rest.map fun v => v.category).sum ≤ 8) (hdg : decode cc pc = .ok (.invokevirtual index, 3)) (hf : cells + mc ≤ R.cells ∧ slots + ms ≤ R.slots) :
    va_Run p l e R s m args below meth c H locs cells slots mc ms (F0 m pc ls st0) rest (Qc (Value.ref b :: As).toArray) free := by
  have cb := kcb (R := R) C k0 k1 k3 hrc hrs hd hR
  obtain ⟨hx, hb, hml, hown, hts, hr, hlocks⟩ := C
  exact va_runV (C := C0) (As := As) (rest := rest) ⟨hx, hb, hml, hown, hts⟩ hM ⟨cb, hts _ k2, hts _ k4⟩ ⟨cpre_blind, va_recv hK hP (ci := ci) (q0 := i0) hc0 he0, cpre_at hP hK hD hE hS hF⟩ rfl hn hsize hstack (lv_room hW) hdg hf
/-- a method of one of the text constants -/
theorem kr_VK {i : Nat} (hi : i < 9) (C : cxA p s m args meth c cc nL own rt) (hM : Met l y (.code y bytes maxL ret :: gT) rm (va_Pc (.ref (Z (1 + 2 * i)) :: As) (cpre D Z wc tc H.size)) Qc mc ms free) (k0 : Cond.code y bytes maxL ret ∈ gT) (k1 : Cond.methodLink own index y ∈ gT) (k2 : Cond.instanceMethod y ∈ gT) (k4 : Cond.selects "java/lang/String" y y ∈ gT) (k3 : Cond.initialized y.cls ∈ gT)
    (hd : y.cls ≠ "java/lang/invoke/MethodHandle" ∧ y.cls ≠ "java/lang/invoke/VarHandle" ∧ (parseMethodDescriptor y.desc).map (fun d => d.parameters.length) = some n) (hrc : rm.cells = mc) (hrs : rm.slots = ms) (hR : rm.frames + 1 ≤ R.frames ∧ 8 + (maxL + 11) + rm.locals ≤ R.locals)
    (hP : va_P D classes wc H) (hD : va_D A wc) (hK : va_K D classes tc s) (hE : Ev Z A s s.heap) (hS : va_S A s.heap H locs) (hF : ∀ q, va_A wc H.size q → A q)
    (hn : As.length = n) (hsize : ls.size = nL) (hstack : st0 = As.reverse ++ .ref (Z (1 + 2 * i)) :: rest) (hW : (rest.map fun v => v.category).sum ≤ 8) (hdg : decode cc pc = .ok (.invokevirtual index, 3)) (hf : cells + mc ≤ R.cells ∧ slots + ms ≤ R.slots) :
    va_Run p l e R s m args below meth c H locs cells slots mc ms (F0 m pc ls st0) rest (Qc (Value.ref (Z (1 + 2 * i)) :: As).toArray) free := by
  have cb := kcb (R := R) C k0 k1 k3 hrc hrs hd hR
  obtain ⟨hx, hb, hml, hown, hts, hr, hlocks⟩ := C
  have hv := vk_recv (i := i) hE.str hi hS
  exact va_runV (C := "java/lang/String") (As := As) (rest := rest) ⟨hx, hb, hml, hown, hts⟩ hM ⟨cb, hts _ k2, hts _ k4⟩ ⟨cpre_blind, hv, cpre_at hP hK hD hE hS hF⟩ rfl hn hsize hstack (lv_room hW) hdg hf
/-- a constructor -/
theorem kr_I (C : cxA p s m args meth c cc nL own rt) (hM : Met l y (.code y bytes maxL none :: gT) rm (va_Pc (.ref b :: As) (cpre D Z wc tc H.size)) Qc mc ms free) (k0 : Cond.code y bytes maxL none ∈ gT) (k1 : Cond.methodLink own index y ∈ gT) (k2 : Cond.instanceMethod y ∈ gT) (k3 : Cond.initialized y.cls ∈ gT) (hy1 : y.name = "<init>")
    (hd : y.cls ≠ "java/lang/invoke/MethodHandle" ∧ y.cls ≠ "java/lang/invoke/VarHandle" ∧ (parseMethodDescriptor y.desc).map (fun d => d.parameters.length) = some n) (hrc : rm.cells = mc) (hrs : rm.slots = ms) (hR : rm.frames + 1 ≤ R.frames ∧ 8 + (maxL + 11) + rm.locals ≤ R.locals)
    (hP : va_P D classes wc H) (hD : va_D A wc) (hK : va_K D classes tc s) (hE : Ev Z A s s.heap) (hS : va_S A s.heap H locs) (hF : ∀ q, va_A wc H.size q → A q)
    (hn : As.length = n) (hsize : ls.size = nL) (hstack : st0 = As.reverse ++ .ref b :: rest) (hW : (rest.map fun v => v.category).sum ≤ 8) (hdg : decode cc pc = .ok (.invokespecial index, 3)) (hf : cells + mc ≤ R.cells ∧ slots + ms ≤ R.slots) :
    va_Run p l e R s m args below meth c H locs cells slots mc ms (F0 m pc ls st0) rest (Qc (Value.ref b :: As).toArray) free := by
  have cb := kcb (R := R) C k0 k1 k3 hrc hrs hd hR
  obtain ⟨hx, hb, hml, hown, hts, hr, hlocks⟩ := C
  exact va_runI (As := As) (rest := rest) ⟨hx, hb, hml, hown, hts⟩ hM ⟨cb, hy1, hts _ k2⟩ ⟨cpre_blind, cpre_at hP hK hD hE hS hF⟩ rfl hn hsize hstack (lv_room hW) hdg hf
/-! going on behind a call that only reads (the heap as it was) -/
theorem kg_i {post : Int32 → Prop} {a : Array Value} (hr : va_Run p l e R s m args below meth c H locs cells slots 0 0 (F0 m pc ls st0) rest (vp_Si post a) (fun _ => False))
    (kk : ∀ r : Int32, post r → W p l e R s m args below meth c H locs cells slots Q (F0 m (pc + 3) ls (.int r :: rest))) : W p l e R s m args below meth c H locs cells slots Q (F0 m pc ls st0) := vp_callSi hr.run kk
theorem kg_l {post : Int64 → Prop} {a : Array Value} (hr : va_Run p l e R s m args below meth c H locs cells slots 0 0 (F0 m pc ls st0) rest (vp_Sl post a) (fun _ => False))
    (kk : ∀ r : Int64, post r → W p l e R s m args below meth c H locs cells slots Q (F0 m (pc + 3) ls (.long r :: rest))) : W p l e R s m args below meth c H locs cells slots Q (F0 m pc ls st0) := vp_callSl hr.run kk
theorem kg_v {post : Unit → Prop} {a : Array Value} (hr : va_Run p l e R s m args below meth c H locs cells slots 0 0 (F0 m pc ls st0) rest (va_Sv post a) (fun _ => False))
    (kk : W p l e R s m args below meth c H locs cells slots Q (F0 m (pc + 3) ls rest)) : W p l e R s m args below meth c H locs cells slots Q (F0 m pc ls st0) := va_csv hr.run (fun _ => kk)
/-! going on behind a call that writes -/
theorem kw_v {S : Type} {post : S → Prop} {w1 : S → va_W} {t1 : S → List (ClassId × FieldType)} {a : Array Value} (hr : va_Run p l e R s m args below meth c H locs cells slots mc ms (F0 m pc ls st0) rest (va_Qv post (fun u t => cpost D (va_A wc H.size) (w1 u) (t1 u) t) (va_A wc H.size) a) (va_A wc H.size))
    (hP : va_P D classes ws H) (hD : va_D A ws) (hK : va_K D classes tys s) (hS : va_S A s.heap H locs) (hA : ∀ q, s.heap.size ≤ q → A q) (isC isR isT : List Nat) (hC : isC.map (fun i => ws[i]?) = wc.map some) (hR : isR.map (fun i => ws[i]?) = wr.map some) (hn : va_nd isR = true) (hdis : ∀ i ∈ isR, i ∉ isC) (hT : isT.filterMap (fun i => tys[i]?) = tr)
    (kk : ∀ (u : S) (H1 : Heap) (locs1 : List Loc), post u → va_P D classes (wr ++ w1 u) H1 → va_D A (wr ++ w1 u) → va_K D classes (tr ++ t1 u) s → va_S A s.heap H1 locs1 → W p l e R s m args below meth c H1 locs1 (cells + mc) (slots + ms) Q (F0 m (pc + 3) ls rest)) :
    W p l e R s m args below meth c H locs cells slots Q (F0 m pc ls st0) := by
  have hF := va_free (wc := wc) hD hS hA isC hC
  refine va_callv hr hS (fun q _ h => hF q h) hF (fun u t H1 locs1 ht hvm hw hB hz1 hk1 hS1 => ?_)
  obtain ⟨hP1, hK1, hD1⟩ := hB
  rw [ht] at hP1
  obtain ⟨hP2, hD2⟩ := va_join (wr := wr) (w1 := w1 u) hP hD isC isR hC hR hn hdis hk1 hF hP1 hD1
  exact kk u H1 locs1 hw hP2 hD2 ((hK.sub isT hT).app (va_K.moved hvm.symm hK1)) hS1
theorem kw_i {S : Type} {post : Int32 → S → Prop} {w1 : S → va_W} {t1 : S → List (ClassId × FieldType)} {a : Array Value} (hr : va_Run p l e R s m args below meth c H locs cells slots mc ms (F0 m pc ls st0) rest (va_Qi post (fun u t => cpost D (va_A wc H.size) (w1 u) (t1 u) t) (va_A wc H.size) a) (va_A wc H.size))
    (hP : va_P D classes ws H) (hD : va_D A ws) (hK : va_K D classes tys s) (hS : va_S A s.heap H locs) (hA : ∀ q, s.heap.size ≤ q → A q) (isC isR isT : List Nat) (hC : isC.map (fun i => ws[i]?) = wc.map some) (hR : isR.map (fun i => ws[i]?) = wr.map some) (hn : va_nd isR = true) (hdis : ∀ i ∈ isR, i ∉ isC) (hT : isT.filterMap (fun i => tys[i]?) = tr)
    (kk : ∀ (r : Int32) (u : S) (H1 : Heap) (locs1 : List Loc), post r u → va_P D classes (wr ++ w1 u) H1 → va_D A (wr ++ w1 u) → va_K D classes (tr ++ t1 u) s → va_S A s.heap H1 locs1 → W p l e R s m args below meth c H1 locs1 (cells + mc) (slots + ms) Q (F0 m (pc + 3) ls (.int r :: rest))) :
    W p l e R s m args below meth c H locs cells slots Q (F0 m pc ls st0) := by
  have hF := va_free (wc := wc) hD hS hA isC hC
  refine va_calli hr hS (fun q _ h => hF q h) hF (fun r u t H1 locs1 ht hvm hw hB hz1 hk1 hS1 => ?_)
  obtain ⟨hP1, hK1, hD1⟩ := hB
  rw [ht] at hP1
  obtain ⟨hP2, hD2⟩ := va_join (wr := wr) (w1 := w1 u) hP hD isC isR hC hR hn hdis hk1 hF hP1 hD1
  exact kk r u H1 locs1 hw hP2 hD2 ((hK.sub isT hT).app (va_K.moved hvm.symm hK1)) hS1
theorem kw_l {S : Type} {post : Int64 → S → Prop} {w1 : S → va_W} {t1 : S → List (ClassId × FieldType)} {a : Array Value} (hr : va_Run p l e R s m args below meth c H locs cells slots mc ms (F0 m pc ls st0) rest (va_Ql post (fun u t => cpost D (va_A wc H.size) (w1 u) (t1 u) t) (va_A wc H.size) a) (va_A wc H.size))
    (hP : va_P D classes ws H) (hD : va_D A ws) (hK : va_K D classes tys s) (hS : va_S A s.heap H locs) (hA : ∀ q, s.heap.size ≤ q → A q) (isC isR isT : List Nat) (hC : isC.map (fun i => ws[i]?) = wc.map some) (hR : isR.map (fun i => ws[i]?) = wr.map some) (hn : va_nd isR = true) (hdis : ∀ i ∈ isR, i ∉ isC) (hT : isT.filterMap (fun i => tys[i]?) = tr)
    (kk : ∀ (r : Int64) (u : S) (H1 : Heap) (locs1 : List Loc), post r u → va_P D classes (wr ++ w1 u) H1 → va_D A (wr ++ w1 u) → va_K D classes (tr ++ t1 u) s → va_S A s.heap H1 locs1 → W p l e R s m args below meth c H1 locs1 (cells + mc) (slots + ms) Q (F0 m (pc + 3) ls (.long r :: rest))) :
    W p l e R s m args below meth c H locs cells slots Q (F0 m pc ls st0) := by
  have hF := va_free (wc := wc) hD hS hA isC hC
  refine va_calll hr hS (fun q _ h => hF q h) hF (fun r u t H1 locs1 ht hvm hw hB hz1 hk1 hS1 => ?_)
  obtain ⟨hP1, hK1, hD1⟩ := hB
  rw [ht] at hP1
  obtain ⟨hP2, hD2⟩ := va_join (wr := wr) (w1 := w1 u) hP hD isC isR hC hR hn hdis hk1 hF hP1 hD1
  exact kk r u H1 locs1 hw hP2 hD2 ((hK.sub isT hT).app (va_K.moved hvm.symm hK1)) hS1
/-! ends -/
theorem er_i {post : Int32 → Prop} {v : Int32} (hx : p.tables.exec = Jvm.exec) (hb : c.code = cc) (hr : meth.sig.returnType = some .int) (hlocks : meth.locks = false) (hd : decode cc pc = .ok (.ireturn, 1)) (hp : post v) : W p l e R s m args below meth c s.heap [] 0 0 (MQ below (vp_Si post) args s 0 0 (fun _ => False)) (F0 m pc ls [.int v]) :=
  W.iret hx hb hr (fun t ht _ => ⟨v, rfl, hp, ht⟩) (fun q h => by cases h) hd hlocks
theorem er_z {post : Int32 → Prop} {v : Int32} {ty : FieldType} (hx : p.tables.exec = Jvm.exec) (hb : c.code = cc) (hr : meth.sig.returnType = some ty) (hlocks : meth.locks = false) (hn : narrow ty (.int v) = .int v) (hd : decode cc pc = .ok (.ireturn, 1)) (hp : post v) : W p l e R s m args below meth c s.heap [] 0 0 (MQ below (vp_Si post) args s 0 0 (fun _ => False)) (F0 m pc ls [.int v]) :=
  W.zret hx hb hr hn (fun t ht _ => ⟨v, rfl, hp, ht⟩) (fun q h => by cases h) hd hlocks
theorem er_l {post : Int64 → Prop} {v : Int64} (hx : p.tables.exec = Jvm.exec) (hb : c.code = cc) (hr : meth.sig.returnType = some .long) (hlocks : meth.locks = false) (hd : decode cc pc = .ok (.lreturn, 1)) (hp : post v) : W p l e R s m args below meth c s.heap [] 0 0 (MQ below (vp_Sl post) args s 0 0 (fun _ => False)) (F0 m pc ls [.long v]) :=
  W.lret hx hb hr (fun t ht _ => ⟨v, rfl, hp, ht⟩) (fun q h => by cases h) hd hlocks
theorem er_v (hx : p.tables.exec = Jvm.exec) (hb : c.code = cc) (hr : meth.sig.returnType = none) (hlocks : meth.locks = false) (hd : decode cc pc = .ok (.return_, 1)) : W p l e R s m args below meth c s.heap [] 0 0 (MQ below (va_Sv (fun _ => True)) args s 0 0 (fun _ => False)) (F0 m pc ls []) :=
  W.vret hx hb hr (fun t ht _ => ⟨rfl, trivial, ht⟩) (fun q h => by cases h) hd hlocks
theorem ew_v {S : Type} {post : S → Prop} {w1 : S → va_W} {t1 : S → List (ClassId × FieldType)} (u : S) (hx : p.tables.exec = Jvm.exec) (hb : c.code = cc) (hr : meth.sig.returnType = none) (hlocks : meth.locks = false) (hd : decode cc pc = .ok (.return_, 1)) (hp : post u) (hP : va_P D classes (w1 u) H) (hD : va_D A (w1 u)) (hK : va_K D classes (t1 u) s) (hS : va_S A s.heap H locs) (hc : cells ≤ mc) (hs : slots ≤ ms) :
    W p l e R s m args below meth c H locs cells slots (MQ below (va_Qv post (fun u t => cpost D A (w1 u) (t1 u) t) A) args s mc ms A) (F0 m pc ls []) :=
  W.widen hc hs (W.vret hx hb hr (fun t ht hW => ⟨⟨u, rfl, hp, by rw [ht]; exact hP, va_K.moved hW.alike hK, hD⟩, hS.F ht⟩) hS.2.2 hd hlocks)
theorem ew_i {S : Type} {post : Int32 → S → Prop} {w1 : S → va_W} {t1 : S → List (ClassId × FieldType)} {v : Int32} (u : S) (hx : p.tables.exec = Jvm.exec) (hb : c.code = cc) (hr : meth.sig.returnType = some .int) (hlocks : meth.locks = false) (hd : decode cc pc = .ok (.ireturn, 1)) (hp : post v u) (hP : va_P D classes (w1 u) H) (hD : va_D A (w1 u)) (hK : va_K D classes (t1 u) s) (hS : va_S A s.heap H locs) (hc : cells ≤ mc) (hs : slots ≤ ms) :
    W p l e R s m args below meth c H locs cells slots (MQ below (va_Qi post (fun u t => cpost D A (w1 u) (t1 u) t) A) args s mc ms A) (F0 m pc ls [.int v]) :=
  W.widen hc hs (W.iret hx hb hr (fun t ht hW => ⟨⟨v, u, rfl, hp, by rw [ht]; exact hP, va_K.moved hW.alike hK, hD⟩, hS.F ht⟩) hS.2.2 hd hlocks)
theorem ew_z {S : Type} {post : Int32 → S → Prop} {w1 : S → va_W} {t1 : S → List (ClassId × FieldType)} {v : Int32} {ty : FieldType} (u : S) (hx : p.tables.exec = Jvm.exec) (hb : c.code = cc) (hr : meth.sig.returnType = some ty) (hlocks : meth.locks = false) (hn : narrow ty (.int v) = .int v) (hd : decode cc pc = .ok (.ireturn, 1)) (hp : post v u) (hP : va_P D classes (w1 u) H) (hD : va_D A (w1 u)) (hK : va_K D classes (t1 u) s) (hS : va_S A s.heap H locs) (hc : cells ≤ mc) (hs : slots ≤ ms) :
    W p l e R s m args below meth c H locs cells slots (MQ below (va_Qi post (fun u t => cpost D A (w1 u) (t1 u) t) A) args s mc ms A) (F0 m pc ls [.int v]) :=
  W.widen hc hs (W.zret hx hb hr hn (fun t ht hW => ⟨⟨v, u, rfl, hp, by rw [ht]; exact hP, va_K.moved hW.alike hK, hD⟩, hS.F ht⟩) hS.2.2 hd hlocks)
theorem ew_l {S : Type} {post : Int64 → S → Prop} {w1 : S → va_W} {t1 : S → List (ClassId × FieldType)} {v : Int64} (u : S) (hx : p.tables.exec = Jvm.exec) (hb : c.code = cc) (hr : meth.sig.returnType = some .long) (hlocks : meth.locks = false) (hd : decode cc pc = .ok (.lreturn, 1)) (hp : post v u) (hP : va_P D classes (w1 u) H) (hD : va_D A (w1 u)) (hK : va_K D classes (t1 u) s) (hS : va_S A s.heap H locs) (hc : cells ≤ mc) (hs : slots ≤ ms) :
    W p l e R s m args below meth c H locs cells slots (MQ below (va_Ql post (fun u t => cpost D A (w1 u) (t1 u) t) A) args s mc ms A) (F0 m pc ls [.long v]) :=
  W.widen hc hs (W.lret hx hb hr (fun t ht hW => ⟨⟨v, u, rfl, hp, by rw [ht]; exact hP, va_K.moved hW.alike hK, hD⟩, hS.F ht⟩) hS.2.2 hd hlocks)
end KR
