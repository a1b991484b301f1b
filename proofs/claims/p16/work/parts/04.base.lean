/-! rooms by level, the array classes, the world of exceptions and nest links, one form of contract -/
abbrev rm_ (L mc ms : Nat) : Room := { frames := 10 * L, cells := mc, slots := ms, locals := 300 * L }
abbrev tyL (cI cZ cJ cD : ClassId) : List (ClassId × FieldType) := [(cI, .int), (cZ, .boolean), (cJ, .long), (cD, .double)]
def nIAE : String := "java/lang/IllegalArgumentException"
def nISE : String := "java/lang/IllegalStateException"
def nIOB : String := "java/lang/IndexOutOfBoundsException"
def dRT : MethodName := ⟨"java/lang/RuntimeException", "<init>", "(Ljava/lang/String;)V"⟩
def dEX : MethodName := ⟨"java/lang/Exception", "<init>", "(Ljava/lang/String;)V"⟩
def dTH : MethodName := ⟨"java/lang/Throwable", "<init>", "(Ljava/lang/String;)V"⟩
def EW (U : State) : Prop :=
  (va_Nw (.declares dRT) U ∧ va_Nw (.declares dEX) U ∧ va_Nw (.declares dTH) U) ∧
  va_Nw (.methodLinkNest RX3 9 yX1_init RX3) U ∧ va_Nw (.methodLinkNest RX3 18 yX0_init RX3) U ∧ va_Nw (.methodLinkNest RX1 56 yX3_codeOf RX3) U ∧
  va_Nw (.castable nIAE nIAE) U ∧ va_Nw (.castable nISE nISE) U ∧ va_Nw (.castable nIOB nIOB) U ∧
  va_Nc nIAE nISE U ∧ va_Nc nIAE nIOB U ∧ va_Nc nISE nIAE U ∧ va_Nc nISE nIOB U ∧ va_Nc nIOB nIAE U ∧ va_Nc nIOB nISE U ∧
  (∃ sa, vk_R RX3 38 "a variable has 2 to 4 landmarks" sa U) ∧ (∃ sa, vk_R RX3 43 "zero is one of the landmarks" sa U) ∧ (∃ sa, vk_R RX3 58 "kinds go from 0 to 5" sa U) ∧
  (∃ sa, vk_R RX3 73 "there is no constraint" sa U) ∧ (∃ sa, vk_R RX3 179 "there is no such variable" sa U) ∧ (∃ sa, vk_R RX3 175 "there is no exploration" sa U)
theorem EW.warm {s U : State} (hW : s.WarmedH U.vm) (h : EW s) : EW U := by
  obtain ⟨⟨f1, f2, f3⟩, a1, a2, a3, b1, b2, b3, c1, c2, c3, c4, c5, c6, ⟨d1, e1⟩, ⟨d2, e2⟩, ⟨d3, e3⟩, ⟨d4, e4⟩, ⟨d5, e5⟩, ⟨d6, e6⟩⟩ := h
  exact ⟨⟨va_Nw.warmD hW f1, va_Nw.warmD hW f2, va_Nw.warmD hW f3⟩, va_Nw.warmM hW a1, va_Nw.warmM hW a2, va_Nw.warmM hW a3, va_Nw.warmC hW b1, va_Nw.warmC hW b2, va_Nw.warmC hW b3,
    va_Nc.moved hW.alike c1, va_Nc.moved hW.alike c2, va_Nc.moved hW.alike c3, va_Nc.moved hW.alike c4, va_Nc.moved hW.alike c5, va_Nc.moved hW.alike c6,
    ⟨d1, vk_R.warm hW e1⟩, ⟨d2, vk_R.warm hW e2⟩, ⟨d3, vk_R.warm hW e3⟩, ⟨d4, vk_R.warm hW e4⟩, ⟨d5, vk_R.warm hW e5⟩, ⟨d6, vk_R.warm hW e6⟩⟩
theorem EW.nM {U : State} (h : EW U) : va_Nw (.methodLinkNest RX3 9 yX1_init RX3) U := h.2.1
theorem EW.nG {U : State} (h : EW U) : va_Nw (.methodLinkNest RX3 18 yX0_init RX3) U := h.2.2.1
theorem EW.nC {U : State} (h : EW U) : va_Nw (.methodLinkNest RX1 56 yX3_codeOf RX3) U := h.2.2.2.1
theorem EW.cIAE {U : State} (h : EW U) : va_Nw (.castable nIAE nIAE) U := h.2.2.2.2.1
theorem EW.cISE {U : State} (h : EW U) : va_Nw (.castable nISE nISE) U := h.2.2.2.2.2.1
theorem EW.cIOB {U : State} (h : EW U) : va_Nw (.castable nIOB nIOB) U := h.2.2.2.2.2.2.1
theorem EW.nc {U : State} (h : EW U) : va_Nc nIAE nISE U ∧ va_Nc nIAE nIOB U ∧ va_Nc nISE nIAE U ∧ va_Nc nISE nIOB U ∧ va_Nc nIOB nIAE U ∧ va_Nc nIOB nISE U := ⟨h.2.2.2.2.2.2.2.1, h.2.2.2.2.2.2.2.2.1, h.2.2.2.2.2.2.2.2.2.1, h.2.2.2.2.2.2.2.2.2.2.1, h.2.2.2.2.2.2.2.2.2.2.2.1, h.2.2.2.2.2.2.2.2.2.2.2.2.1⟩
theorem EW.st {U : State} (h : EW U) : (∃ sa, vk_R RX3 38 "a variable has 2 to 4 landmarks" sa U) ∧ (∃ sa, vk_R RX3 43 "zero is one of the landmarks" sa U) ∧ (∃ sa, vk_R RX3 58 "kinds go from 0 to 5" sa U) ∧ (∃ sa, vk_R RX3 73 "there is no constraint" sa U) ∧ (∃ sa, vk_R RX3 179 "there is no such variable" sa U) ∧ (∃ sa, vk_R RX3 175 "there is no exploration" sa U) := h.2.2.2.2.2.2.2.2.2.2.2.2.2
def EV (A : Nat → Prop) (U : State) : Prop := vx_Zq Bundle.tN "UNASSIGNED_STACK" Bundle.steD A U U.heap ∧ vx_Zq Bundle.tN "SUPPRESSED_SENTINEL" Bundle.listD A U U.heap ∧ EW U
theorem EV.pass {A A1 : Nat → Prop} {s U : State} {H : Heap} {locs : List Loc} (hE : EV A s) (hS : va_S A s.heap H locs) (hA : ∀ q, A1 q → A q) (hU : U.heap = H) (hW : s.WarmedH U.vm) : EV A1 U := by
  refine ⟨?_, ?_, EW.warm hW hE.2.2⟩
  · rw [hU]; exact ((hE.1.kept hS.2.1).moved hW.alike).narrow hA
  · rw [hU]; exact ((hE.2.1.kept hS.2.1).moved hW.alike).narrow hA
theorem va_P_subm {D : va_G} {cl : List vw_C} {ws ws' : va_W} {H : Heap} (h : va_P D cl ws H) (is : List Nat) (hs : is.map (fun i => ws[i]?) = ws'.map some) : va_P D cl ws' H := by
  intro k q hk
  have h1 : (is.map (fun i => ws[i]?))[k]? = some (some q) := by rw [hs, List.getElem?_map, hk]; rfl
  rw [List.getElem?_map] at h1
  cases hi : is[k]? with
  | none => rw [hi] at h1; cases h1
  | some i => rw [hi] at h1; exact h i q (Option.some.inj h1)
/-- a contract's start -/
def PC (D : va_G) (tys : List (ClassId × FieldType)) (wc : va_W) (sz : Nat) (av : List Value) : Array Value → State → Prop := va_Pc av (fun U => U.heap.size = sz ∧ va_P D vwCl wc U.heap ∧ va_K D vwCl tys U ∧ va_D (fun _ => True) wc ∧ EV (va_A wc sz) U)
theorem PC.blind {D : va_G} {tys : List (ClassId × FieldType)} {wc : va_W} {sz : Nat} {av : List Value} : FrameBlind (PC D tys wc sz av) := by
  intro a U g mk q
  obtain ⟨q0, q1, q2, q3, q4, q5, q6, q7⟩ := q
  exact ⟨q0, q1, q2, va_K.moved (u := U) (U := U.calling g mk a) (Vm.Alike.refl U.vm) q3, q4, q5.moved (u := U) (U := U.calling g mk a) (Vm.Alike.refl U.vm), q6.moved (u := U) (U := U.calling g mk a) (Vm.Alike.refl U.vm), EW.warm (s := U) (U := U.calling g mk a) (State.WarmedH.refl U) q7⟩
/-- a contract's end: it returned v, the world is w1 -/
def QR (D : va_G) (w1 : va_W) (v : Option Value) (A : Nat → Prop) : Array Value → State → Outcome → State → Prop := fun _ st o t => o = .returned v ∧ va_P D vwCl w1 t.heap ∧ va_D A w1 ∧ va_F A st t
/-- .. the world is one of Wp -/
def QE (D : va_G) (Wp : va_W → Prop) (v : Option Value) (A : Nat → Prop) : Array Value → State → Outcome → State → Prop := fun _ st o t => o = .returned v ∧ (∃ w1, Wp w1 ∧ va_P D vwCl w1 t.heap ∧ va_D A w1) ∧ va_F A st t
/-- .. it threw an object of the class -/
def XR (cls : String) (A : Nat → Prop) : String → State → State → Prop := fun E st t => E = cls ∧ va_F A st t
abbrev QN : Array Value → State → Outcome → State → Prop := fun _ _ _ _ => False
section Xbodies
variable {l : Launch} {y : MethodName} {cc : ByteArray} {maxL mc ms sz : Nat} {ret : Option FieldType} {rm : Room} {D : va_G} {tys : List (ClassId × FieldType)} {wc : va_W} {av : List Value}
theorem xm_of {QQ : (Nat → Prop) → Array Value → State → Outcome → State → Prop} (hy : plainName y.cls = true) (hlen : (lg_sl av).length ≤ maxL)
    (body : ∀ (p : Program) (e : Env) (s : State) (m : MethodId) (below : List Frame) (meth : Method) (c : Code) (A : Nat → Prop) (ls : Array Slot), p.tables.exec = Jvm.exec → c.code = cc → meth.sig.returnType = ret → c.maxLocals = maxL → s.vm.findClass y.cls = some m.cls → (∀ w ∈ lw_all, w.before av.toArray s = true) → meth.locks = false → meth.name = y.name → va_K D vwCl tys s → va_P D vwCl wc s.heap → va_D A wc → EV A s → (∀ q : Nat, s.heap.size ≤ q → A q) → va_S A s.heap s.heap [] → lv_has ls maxL (lv_args 0 av) → W p l e rm s m av.toArray below meth c s.heap [] 0 0 (MQ below (QQ A) av.toArray s mc ms A) (F0 m 0 ls [])) :
    Met l y (ws_ y cc maxL ret) rm (PC D tys wc sz av) (QQ (va_A wc sz)) mc ms (va_A wc sz) := by
  refine Met.ofW (cc := cc) (maxL := maxL) (ret := ret) hy rfl ?_
  intro p e s m args below meth c s₁ B hml hv
  obtain ⟨rfl, hsz, hP, hK, hD0, hE⟩ := hv
  have hts := atoms_spec (ws := ws_ y cc maxL ret) B.pre
  have hnm := name_of_methodNamed B.named B.method
  subst hsz
  have hl := lv_entry av (n := maxL) hlen
  rw [lg_entry_eq]
  exact body p e s m below meth c (va_A wc s.heap.size) _ B.exec B.bytes B.returns hml (findClass_of_methodNamed B.named) (fun w h => hts w (List.mem_cons_of_mem _ h)) B.notSynchronized hnm.1 hK hP hD0.self hE (fun q h => Or.inr h) va_S.rf hl
theorem xm_h {hh : List (Nat × Nat × Nat × Nat)} {QQ : (Nat → Prop) → Array Value → State → Outcome → State → Prop} (hy : plainName y.cls = true) (hlen : (lg_sl av).length ≤ maxL)
    (body : ∀ (p : Program) (e : Env) (s : State) (m : MethodId) (below : List Frame) (meth : Method) (c : Code) (A : Nat → Prop) (ls : Array Slot), p.tables.exec = Jvm.exec → c.code = cc → meth.sig.returnType = ret → c.maxLocals = maxL → s.vm.findClass y.cls = some m.cls → (∀ w ∈ lw_all, w.before av.toArray s = true) → meth.locks = false → c.exceptionTable.toList = tableOf hh → va_K D vwCl tys s → va_P D vwCl wc s.heap → va_D A wc → EV A s → (∀ q : Nat, s.heap.size ≤ q → A q) → va_S A s.heap s.heap [] → lv_has ls maxL (lv_args 0 av) → W p l e rm s m av.toArray below meth c s.heap [] 0 0 (MQ below (QQ A) av.toArray s mc ms A) (F0 m 0 ls [])) :
    Met l y (wh_ y cc maxL ret hh) rm (PC D tys wc sz av) (QQ (va_A wc sz)) mc ms (va_A wc sz) := by
  refine MetFree.of_bodyS (code := cc) (maxLocals := maxL) (ret := ret) hy ?_ ?_
  · intro args s m h hn
    obtain ⟨m9, meth, c, hn9, h1, h2, h3, h4, -, h5, h6, -⟩ := Cond.codeWith_spec (atoms_spec (ws := wh_ y cc maxL ret hh) h _ List.mem_cons_self)
    cases hn.symm.trans hn9
    exact ⟨meth, c, h1, h2, h3, h4, h5, h6⟩
  · intro p e s m args below meth c s₁ B hml hv _
    have hh0 : s₁.heap = s.heap := by rw [B.state]; rfl
    have hts := atoms_spec (ws := wh_ y cc maxL ret hh) B.pre
    have htab := vx_table (x := y) B (hts _ List.mem_cons_self)
    obtain ⟨rfl, hsz, hP, hK, hD0, hE⟩ := hv
    subst hsz
    have hl := lv_entry av (n := maxL) hlen
    have K := body p e s m below meth c (va_A wc s.heap.size) _ B.exec B.bytes B.returns hml (findClass_of_methodNamed B.named) (fun w h => hts w (List.mem_cons_of_mem _ h)) B.notSynchronized htab hK hP hD0.self hE (fun q h => Or.inr h) va_S.rf hl
    rw [← lg_entry_eq] at K
    obtain ⟨t, a1, o, b1, b2, b3⟩ := K s₁ hh0 (Stand.of_body B)
    exact ⟨t, o, a1, b1, b2, ⟨b3.1, b3.2⟩⟩
theorem xm_x {cls : String} (hy : plainName y.cls = true) (hlen : (lg_sl av).length ≤ maxL)
    (body : ∀ (p : Program) (e : Env) (s : State) (m : MethodId) (below : List Frame) (meth : Method) (c : Code) (A : Nat → Prop) (ls : Array Slot), p.tables.exec = Jvm.exec → c.code = cc → meth.sig.returnType = ret → c.maxLocals = maxL → s.vm.findClass y.cls = some m.cls → (∀ w ∈ lw_all, w.before av.toArray s = true) → meth.locks = false → (∀ x ∈ c.exceptionTable.toList, False) → va_K D vwCl tys s → va_P D vwCl wc s.heap → va_D A wc → EV A s → (∀ q : Nat, s.heap.size ≤ q → A q) → va_S A s.heap s.heap [] → lv_has ls maxL (lv_args 0 av) → W p l e rm s m av.toArray below meth c s.heap [] 0 0 (vx_MQ below QN (XR cls A) av.toArray s mc ms A) (F0 m 0 ls [])) :
    vx_Met l y (ws_ y cc maxL ret) rm (PC D tys wc sz av) QN (XR cls (va_A wc sz)) mc ms (va_A wc sz) := by
  refine vx_ofW (cc := cc) (maxL := maxL) (ret := ret) hy rfl ?_
  intro p e s m args below meth c s₁ B hml ht hv
  obtain ⟨rfl, hsz, hP, hK, hD0, hE⟩ := hv
  have hts := atoms_spec (ws := ws_ y cc maxL ret) B.pre
  subst hsz
  have hl := lv_entry av (n := maxL) hlen
  rw [lg_entry_eq]
  exact body p e s m below meth c (va_A wc s.heap.size) _ B.exec B.bytes B.returns hml (findClass_of_methodNamed B.named) (fun w h => hts w (List.mem_cons_of_mem _ h)) B.notSynchronized ht hK hP hD0.self hE (fun q h => Or.inr h) va_S.rf hl
end Xbodies
/-- what a callee's words and name need, once for each -/
def MOK (y : MethodName) (bytes : ByteArray) (maxL : Nat) (ret : Option FieldType) (n : Nat) : Prop := Cond.instanceMethod y ∈ lw_all ∧ Cond.selects y.cls y y ∈ lw_all ∧ Cond.initialized y.cls ∈ lw_all ∧ Cond.code y bytes maxL ret ∈ lw_all ∧ y.cls ≠ "java/lang/invoke/MethodHandle" ∧ y.cls ≠ "java/lang/invoke/VarHandle" ∧ (parseMethodDescriptor y.desc).map (fun d => d.parameters.length) = some n
def SOK (y : MethodName) (bytes : ByteArray) (maxL : Nat) (ret : Option FieldType) (n : Nat) : Prop := Cond.static y ∈ lw_all ∧ Cond.initialized y.cls ∈ lw_all ∧ Cond.code y bytes maxL ret ∈ lw_all ∧ y.cls ≠ "java/lang/invoke/MethodHandle" ∧ y.cls ≠ "java/lang/invoke/VarHandle" ∧ (parseMethodDescriptor y.desc).map (fun d => d.parameters.length) = some n
def HOK (y : MethodName) (bytes : ByteArray) (maxL : Nat) (ret : Option FieldType) (hh : List (Nat × Nat × Nat × Nat)) (n : Nat) : Prop := Cond.static y ∈ lw_all ∧ Cond.initialized y.cls ∈ lw_all ∧ Cond.codeWith y bytes maxL ret hh ∈ lw_all ∧ y.cls ≠ "java/lang/invoke/MethodHandle" ∧ y.cls ≠ "java/lang/invoke/VarHandle" ∧ (parseMethodDescriptor y.desc).map (fun d => d.parameters.length) = some n
def IOK (y : MethodName) (bytes : ByteArray) (maxL : Nat) (n : Nat) : Prop := Cond.instanceMethod y ∈ lw_all ∧ Cond.initialized y.cls ∈ lw_all ∧ Cond.code y bytes maxL none ∈ lw_all ∧ y.name = "<init>" ∧ y.cls ≠ "java/lang/invoke/MethodHandle" ∧ y.cls ≠ "java/lang/invoke/VarHandle" ∧ (parseMethodDescriptor y.desc).map (fun d => d.parameters.length) = some n
section Xcalls
variable {p : Program} {l : Launch} {e : Env} {R : Room} {s : State} {m : MethodId} {args : Array Value} {below : List Frame} {meth : Method} {c : Code} {H : Heap} {locs : List Loc} {cells slots : Nat} {Q : State → Prop}
variable {pc nL index mc ms n maxL q0 ci : Nat} {ls : Array Slot} {st0 rest As : List Value} {A : Nat → Prop} {D : va_G} {tys : List (ClassId × FieldType)} {ws wc wr w1 : va_W} {Wp : va_W → Prop} {v : Option Value} {y : MethodName} {bytes cc : ByteArray} {ret : Option FieldType} {rm : Room} {own : String} {b : Addr} {fs : List Value} {hh : List (Nat × Nat × Nat × Nat)}
theorem xc_keep {st₀ t T' : State} {L : List Loc} (h0 : st₀.heap = H) (e1 : T'.heap = t.heap) (hS : va_S A s.heap H locs) (hF : ∀ q, va_A wc H.size q → A q) (hL : ∀ q ∈ L, va_A wc H.size q.base) (hk : va_F (va_A wc H.size) st₀ t) : va_S A s.heap T'.heap (locs ++ L) := by
  obtain ⟨hz, hk⟩ := hk
  rw [h0] at hz hk
  exact ⟨Nat.le_trans hS.1 (by rw [e1]; exact hz), fun q h1 h2 => by rw [e1, hk q (Nat.lt_of_lt_of_le h1 hS.1) (fun z => h2 (hF q z))]; exact hS.2.1 q h1 h2, fun q hq => (List.mem_append.mp hq).elim (hS.2.2 q) (fun h => hF _ (hL q h))⟩
theorem xc_run {a : Array Value} (hr : va_Run p l e R s m args below meth c H locs cells slots mc ms (F0 m pc ls st0) rest (QR D w1 v (va_A wc H.size) a) (va_A wc H.size)) (hP : va_P D vwCl ws H) (hD : va_D A ws) (hS : va_S A s.heap H locs) (hF : ∀ q, va_A wc H.size q → A q) (isC isR : List Nat) (hC : isC.map (fun i => ws[i]?) = wc.map some) (hR : isR.map (fun i => ws[i]?) = wr.map some) (hn : va_nd isR = true) (hdis : ∀ i ∈ isR, i ∉ isC)
    (kk : ∀ (H1 : Heap) (locs1 : List Loc), va_P D vwCl (wr ++ w1) H1 → va_D A (wr ++ w1) → va_S A s.heap H1 locs1 → W p l e R s m args below meth c H1 locs1 (cells + mc) (slots + ms) Q (F0 m (pc + 3) ls (v.toList ++ rest))) : W p l e R s m args below meth c H locs cells slots Q (F0 m pc ls st0) := by
  intro T hT X
  obtain ⟨v', st₀, t, T', L, h0, X', hL, e1, e2, ⟨hv, hp1, hd1, hFt⟩, st⟩ := hr T hT X
  cases hv
  have hS1 := xc_keep h0 e1 hS hF hL hFt
  obtain ⟨hz, hk⟩ := hFt
  rw [h0] at hz hk
  obtain ⟨j1, j2⟩ := va_join (wr := wr) (w1 := w1) (H1 := T'.heap) hP hD isC isR hC hR hn hdis (fun q h1 h2 => by rw [e1]; exact hk q h1 h2) hF (by rw [e1]; exact hp1) hd1
  obtain ⟨t2, a1, b1⟩ := kk T'.heap (locs ++ L) j1 j2 hS1 T' rfl X'
  exact ⟨t2, st t2 a1, b1⟩
theorem xc_runE {a : Array Value} (hr : va_Run p l e R s m args below meth c H locs cells slots mc ms (F0 m pc ls st0) rest (QE D Wp v (va_A wc H.size) a) (va_A wc H.size)) (hP : va_P D vwCl ws H) (hD : va_D A ws) (hS : va_S A s.heap H locs) (hF : ∀ q, va_A wc H.size q → A q) (isC isR : List Nat) (hC : isC.map (fun i => ws[i]?) = wc.map some) (hR : isR.map (fun i => ws[i]?) = wr.map some) (hn : va_nd isR = true) (hdis : ∀ i ∈ isR, i ∉ isC)
    (kk : ∀ (w1 : va_W) (H1 : Heap) (locs1 : List Loc), Wp w1 → va_P D vwCl (wr ++ w1) H1 → va_D A (wr ++ w1) → va_S A s.heap H1 locs1 → W p l e R s m args below meth c H1 locs1 (cells + mc) (slots + ms) Q (F0 m (pc + 3) ls (v.toList ++ rest))) : W p l e R s m args below meth c H locs cells slots Q (F0 m pc ls st0) := by
  intro T hT X
  obtain ⟨v', st₀, t, T', L, h0, X', hL, e1, e2, ⟨hv, ⟨w1, hw, hp1, hd1⟩, hFt⟩, st⟩ := hr T hT X
  cases hv
  have hS1 := xc_keep h0 e1 hS hF hL hFt
  obtain ⟨hz, hk⟩ := hFt
  rw [h0] at hz hk
  obtain ⟨j1, j2⟩ := va_join (wr := wr) (w1 := w1) (H1 := T'.heap) hP hD isC isR hC hR hn hdis (fun q h1 h2 => by rw [e1]; exact hk q h1 h2) hF (by rw [e1]; exact hp1) hd1
  obtain ⟨t2, a1, b1⟩ := kk w1 T'.heap (locs ++ L) hw j1 j2 hS1 T' rfl X'
  exact ⟨t2, st t2 a1, b1⟩
theorem xc_preS (hK : va_K D vwCl tys s) (hE : EV A s) (hS : va_S A s.heap H locs) (hP : va_P D vwCl ws H) (hD : va_D A ws) (hF : ∀ q, va_A wc H.size q → A q) (isC : List Nat) (hC : isC.map (fun i => ws[i]?) = wc.map some) (hn : va_nd isC = true) : PreS s H (PC D tys wc H.size As) As :=
  ⟨PC.blind, fun U hU hW => ⟨rfl, by rw [hU], by rw [hU]; exact va_P_subm hP isC hC, va_K.moved hW.alike hK, (hD.sub isC hn hC).weaken (fun _ _ _ _ => trivial), hE.pass hS hF hU hW⟩⟩
theorem xc_preV (hK : va_K D vwCl tys s) (hE : EV A s) (hS : va_S A s.heap H locs) (hP : va_P D vwCl ws H) (hD : va_D A ws) (hF : ∀ q, va_A wc H.size q → A q) (isC : List Nat) (hC : isC.map (fun i => ws[i]?) = wc.map some) (hn : va_nd isC = true) {r : vw_C} (hc : vwCl[ci]? = some r) (he : ws[q0]? = some (b, .inr (ci, fs))) : PreV s H r.1 b (PC D tys wc H.size (.ref b :: As)) As :=
  ⟨PC.blind, va_recv hK hP hc he, (xc_preS (As := .ref b :: As) hK hE hS hP hD hF isC hC hn).2⟩
/-- a virtual call -/
theorem xc_V (S : CallFix p m c cc nL s args lw_all own) (hM : Met l y (ws_ y bytes maxL ret) rm (PC D tys wc H.size (.ref b :: As)) (QR D w1 v (va_A wc H.size)) mc ms (va_A wc H.size)) (hlk : Cond.methodLink own index y ∈ lw_all) (ok : MOK y bytes maxL ret n) (hP : va_P D vwCl ws H) (hD : va_D A ws) (hK : va_K D vwCl tys s) (hE : EV A s) (hS : va_S A s.heap H locs) (hA : ∀ q, s.heap.size ≤ q → A q)
    (isC isR : List Nat) (hC : isC.map (fun i => ws[i]?) = wc.map some) (hR : isR.map (fun i => ws[i]?) = wr.map some) (hnC : va_nd isC = true) (hn : va_nd isR = true) (hdis : ∀ i ∈ isR, i ∉ isC) {r : vw_C} (hc : vwCl[ci]? = some r) (q0 : Nat) (he : ws[q0]? = some (b, .inr (ci, fs))) (hcl : r.1 = y.cls) (hlen : As.length = n) (hsz : ls.size = nL) (hst : st0 = As.reverse ++ .ref b :: rest) (hrs : (rest.map fun v => v.category).sum ≤ 8) (hrm : rm.cells = mc ∧ rm.slots = ms) (hrf : rm.frames + 1 ≤ R.frames ∧ 8 + (maxL + 11) + rm.locals ≤ R.locals) (hf : cells + mc ≤ R.cells ∧ slots + ms ≤ R.slots) (hdg : decode cc pc = .ok (.invokevirtual index, 3))
    (kk : ∀ (H1 : Heap) (locs1 : List Loc), va_P D vwCl (wr ++ w1) H1 → va_D A (wr ++ w1) → va_S A s.heap H1 locs1 → W p l e R s m args below meth c H1 locs1 (cells + mc) (slots + ms) Q (F0 m (pc + 3) ls (v.toList ++ rest))) : W p l e R s m args below meth c H locs cells slots Q (F0 m pc ls st0) := by
  obtain ⟨o1, o2, o3, o4, o5⟩ := ok
  have hF := va_free (wc := wc) hD hS hA isC hC
  subst hst
  have hpv := xc_preV (q0 := q0) (As := As) hK hE hS hP hD hF isC hC hnC hc he
  rw [hcl] at hpv
  exact xc_run (va_runV (As := As) (rest := rest) S hM (cwV n S.2.2.2.2 (lw_V hlk o1 o2 o3 o4) rfl hrm.1 hrm.2 ⟨rfl, o5⟩ hrf) hpv rfl hlen hsz rfl (lv_room hrs) hdg hf) hP hD hS hF isC isR hC hR hn hdis kk
/-- a static call -/
theorem xc_S (S : CallFix p m c cc nL s args lw_all own) (hM : Met l y (ws_ y bytes maxL ret) rm (PC D tys wc H.size As) (QR D w1 v (va_A wc H.size)) mc ms (va_A wc H.size)) (hlk : Cond.methodLink own index y ∈ lw_all) (ok : SOK y bytes maxL ret n) (hP : va_P D vwCl ws H) (hD : va_D A ws) (hK : va_K D vwCl tys s) (hE : EV A s) (hS : va_S A s.heap H locs) (hA : ∀ q, s.heap.size ≤ q → A q)
    (isC isR : List Nat) (hC : isC.map (fun i => ws[i]?) = wc.map some) (hR : isR.map (fun i => ws[i]?) = wr.map some) (hnC : va_nd isC = true) (hn : va_nd isR = true) (hdis : ∀ i ∈ isR, i ∉ isC) (hlen : As.length = n) (hsz : ls.size = nL) (hst : st0 = As.reverse ++ rest) (hrs : (rest.map fun v => v.category).sum ≤ 8) (hrm : rm.cells = mc ∧ rm.slots = ms) (hrf : rm.frames + 1 ≤ R.frames ∧ 8 + (maxL + 11) + rm.locals ≤ R.locals) (hf : cells + mc ≤ R.cells ∧ slots + ms ≤ R.slots) (hdg : decode cc pc = .ok (.invokestatic index, 3))
    (kk : ∀ (H1 : Heap) (locs1 : List Loc), va_P D vwCl (wr ++ w1) H1 → va_D A (wr ++ w1) → va_S A s.heap H1 locs1 → W p l e R s m args below meth c H1 locs1 (cells + mc) (slots + ms) Q (F0 m (pc + 3) ls (v.toList ++ rest))) : W p l e R s m args below meth c H locs cells slots Q (F0 m pc ls st0) := by
  obtain ⟨o1, o2, o3, o4⟩ := ok
  have hF := va_free (wc := wc) hD hS hA isC hC
  subst hst
  exact xc_run (va_runS (As := As) (rest := rest) S hM (va_cwS n S.2.2.2.2 (lw_S hlk o1 o2 o3) rfl hrm.1 hrm.2 o4 hrf) (xc_preS hK hE hS hP hD hF isC hC hnC) rfl hlen hsz rfl (lv_room hrs) hdg hf) hP hD hS hF isC isR hC hR hn hdis kk
/-- a static call of a method with handlers -/
theorem xc_H (S : CallFix p m c cc nL s args lw_all own) (hM : Met l y (wh_ y bytes maxL ret hh) rm (PC D tys wc H.size As) (QR D w1 v (va_A wc H.size)) mc ms (va_A wc H.size)) (hlk : Cond.methodLink own index y ∈ lw_all) (ok : HOK y bytes maxL ret hh n) (hP : va_P D vwCl ws H) (hD : va_D A ws) (hK : va_K D vwCl tys s) (hE : EV A s) (hS : va_S A s.heap H locs) (hA : ∀ q, s.heap.size ≤ q → A q)
    (isC isR : List Nat) (hC : isC.map (fun i => ws[i]?) = wc.map some) (hR : isR.map (fun i => ws[i]?) = wr.map some) (hnC : va_nd isC = true) (hn : va_nd isR = true) (hdis : ∀ i ∈ isR, i ∉ isC) (hlen : As.length = n) (hsz : ls.size = nL) (hst : st0 = As.reverse ++ rest) (hrs : (rest.map fun v => v.category).sum ≤ 8) (hrm : rm.cells = mc ∧ rm.slots = ms) (hrf : rm.frames + 1 ≤ R.frames ∧ 8 + (maxL + 11) + rm.locals ≤ R.locals) (hf : cells + mc ≤ R.cells ∧ slots + ms ≤ R.slots) (hdg : decode cc pc = .ok (.invokestatic index, 3))
    (kk : ∀ (H1 : Heap) (locs1 : List Loc), va_P D vwCl (wr ++ w1) H1 → va_D A (wr ++ w1) → va_S A s.heap H1 locs1 → W p l e R s m args below meth c H1 locs1 (cells + mc) (slots + ms) Q (F0 m (pc + 3) ls (v.toList ++ rest))) : W p l e R s m args below meth c H locs cells slots Q (F0 m pc ls st0) := by
  obtain ⟨o1, o2, o3, o4⟩ := ok
  have hF := va_free (wc := wc) hD hS hA isC hC
  subst hst
  exact xc_run (vx_runSW (As := As) (rest := rest) S hM (vx_cwSW n S.2.2.2.2 (lw_S hlk o1 o2 o3) rfl hrm.1 hrm.2 o4 hrf) (xc_preS hK hE hS hP hD hF isC hC hnC) rfl hlen hsz rfl (lv_room hrs) hdg hf) hP hD hS hF isC isR hC hR hn hdis kk
/-- a static call of a nest mate's private method -/
theorem xc_SN {host : String} (S : CallFix p m c cc nL s args lw_all own) (hM : Met l y (ws_ y bytes maxL ret) rm (PC D tys wc H.size As) (QR D w1 v (va_A wc H.size)) mc ms (va_A wc H.size)) (hlk : va_Nw (.methodLinkNest own index y host) s) (ok : SOK y bytes maxL ret n) (hP : va_P D vwCl ws H) (hD : va_D A ws) (hK : va_K D vwCl tys s) (hE : EV A s) (hS : va_S A s.heap H locs) (hA : ∀ q, s.heap.size ≤ q → A q)
    (isC isR : List Nat) (hC : isC.map (fun i => ws[i]?) = wc.map some) (hR : isR.map (fun i => ws[i]?) = wr.map some) (hnC : va_nd isC = true) (hn : va_nd isR = true) (hdis : ∀ i ∈ isR, i ∉ isC) (hlen : As.length = n) (hsz : ls.size = nL) (hst : st0 = As.reverse ++ rest) (hrs : (rest.map fun v => v.category).sum ≤ 8) (hrm : rm.cells = mc ∧ rm.slots = ms) (hrf : rm.frames + 1 ≤ R.frames ∧ 8 + (maxL + 11) + rm.locals ≤ R.locals) (hf : cells + mc ≤ R.cells ∧ slots + ms ≤ R.slots) (hdg : decode cc pc = .ok (.invokestatic index, 3))
    (kk : ∀ (H1 : Heap) (locs1 : List Loc), va_P D vwCl (wr ++ w1) H1 → va_D A (wr ++ w1) → va_S A s.heap H1 locs1 → W p l e R s m args below meth c H1 locs1 (cells + mc) (slots + ms) Q (F0 m (pc + 3) ls (v.toList ++ rest))) : W p l e R s m args below meth c H locs cells slots Q (F0 m pc ls st0) := by
  obtain ⟨o1, o2, o3, o4⟩ := ok
  have hF := va_free (wc := wc) hD hS hA isC hC
  subst hst
  exact xc_run (va_runSN (As := As) (rest := rest) S hM ⟨va_cnB n S.2.2.2.2 (lw_g o3) rfl hrm.1 hrm.2 hlk (S.2.2.2.2 _ o2) o4 hrf, S.2.2.2.2 _ o1, trivial⟩ (xc_preS hK hE hS hP hD hF isC hC hnC) rfl hlen hsz rfl (lv_room hrs) hdg hf) hP hD hS hF isC isR hC hR hn hdis kk
/-- a constructor -/
theorem xc_I (S : CallFix p m c cc nL s args lw_all own) (hM : Met l y (ws_ y bytes maxL none) rm (PC D tys wc H.size (.ref b :: As)) (QE D Wp none (va_A wc H.size)) mc ms (va_A wc H.size)) (hlk : Cond.methodLink own index y ∈ lw_all) (ok : IOK y bytes maxL n) (hP : va_P D vwCl ws H) (hD : va_D A ws) (hK : va_K D vwCl tys s) (hE : EV A s) (hS : va_S A s.heap H locs) (hA : ∀ q, s.heap.size ≤ q → A q)
    (isC isR : List Nat) (hC : isC.map (fun i => ws[i]?) = wc.map some) (hR : isR.map (fun i => ws[i]?) = wr.map some) (hnC : va_nd isC = true) (hn : va_nd isR = true) (hdis : ∀ i ∈ isR, i ∉ isC) (hlen : As.length = n) (hsz : ls.size = nL) (hst : st0 = As.reverse ++ .ref b :: rest) (hrs : (rest.map fun v => v.category).sum ≤ 8) (hrm : rm.cells = mc ∧ rm.slots = ms) (hrf : rm.frames + 1 ≤ R.frames ∧ 8 + (maxL + 11) + rm.locals ≤ R.locals) (hf : cells + mc ≤ R.cells ∧ slots + ms ≤ R.slots) (hdg : decode cc pc = .ok (.invokespecial index, 3))
    (kk : ∀ (w1 : va_W) (H1 : Heap) (locs1 : List Loc), Wp w1 → va_P D vwCl (wr ++ w1) H1 → va_D A (wr ++ w1) → va_S A s.heap H1 locs1 → W p l e R s m args below meth c H1 locs1 (cells + mc) (slots + ms) Q (F0 m (pc + 3) ls rest)) : W p l e R s m args below meth c H locs cells slots Q (F0 m pc ls st0) := by
  obtain ⟨o1, o2, o3, o4, o5⟩ := ok
  have hF := va_free (wc := wc) hD hS hA isC hC
  subst hst
  exact xc_runE (va_runI (As := As) (rest := rest) S hM (cwI n S.2.2.2.2 (lw_g o3) rfl hrm.1 hrm.2 (S.2.2.2.2 _ o2) (S.2.2.2.2 _ hlk) (S.2.2.2.2 _ o1) o4 o5 hrf) (xc_preS (As := .ref b :: As) hK hE hS hP hD hF isC hC hnC) rfl hlen hsz rfl (lv_room hrs) hdg hf) hP hD hS hF isC isR hC hR hn hdis kk
/-- a nest mate's private constructor -/
theorem xc_IN {host : String} (S : CallFix p m c cc nL s args lw_all own) (hM : Met l y (ws_ y bytes maxL none) rm (PC D tys wc H.size (.ref b :: As)) (QE D Wp none (va_A wc H.size)) mc ms (va_A wc H.size)) (hlk : va_Nw (.methodLinkNest own index y host) s) (ok : IOK y bytes maxL n) (hP : va_P D vwCl ws H) (hD : va_D A ws) (hK : va_K D vwCl tys s) (hE : EV A s) (hS : va_S A s.heap H locs) (hA : ∀ q, s.heap.size ≤ q → A q)
    (isC isR : List Nat) (hC : isC.map (fun i => ws[i]?) = wc.map some) (hR : isR.map (fun i => ws[i]?) = wr.map some) (hnC : va_nd isC = true) (hn : va_nd isR = true) (hdis : ∀ i ∈ isR, i ∉ isC) (hlen : As.length = n) (hsz : ls.size = nL) (hst : st0 = As.reverse ++ .ref b :: rest) (hrs : (rest.map fun v => v.category).sum ≤ 8) (hrm : rm.cells = mc ∧ rm.slots = ms) (hrf : rm.frames + 1 ≤ R.frames ∧ 8 + (maxL + 11) + rm.locals ≤ R.locals) (hf : cells + mc ≤ R.cells ∧ slots + ms ≤ R.slots) (hdg : decode cc pc = .ok (.invokespecial index, 3))
    (kk : ∀ (w1 : va_W) (H1 : Heap) (locs1 : List Loc), Wp w1 → va_P D vwCl (wr ++ w1) H1 → va_D A (wr ++ w1) → va_S A s.heap H1 locs1 → W p l e R s m args below meth c H1 locs1 (cells + mc) (slots + ms) Q (F0 m (pc + 3) ls rest)) : W p l e R s m args below meth c H locs cells slots Q (F0 m pc ls st0) := by
  obtain ⟨o1, o2, o3, o4, o5⟩ := ok
  have hF := va_free (wc := wc) hD hS hA isC hC
  subst hst
  exact xc_runE (va_runIN (As := As) (rest := rest) S hM ⟨va_cnB n S.2.2.2.2 (lw_g o3) rfl hrm.1 hrm.2 hlk (S.2.2.2.2 _ o2) o5 hrf, o4, S.2.2.2.2 _ o1⟩ (xc_preS (As := .ref b :: As) hK hE hS hP hD hF isC hC hnC) rfl hlen hsz rfl (lv_room hrs) hdg hf) hP hD hS hF isC isR hC hR hn hdis kk
/-- a virtual call that throws: what comes behind it is said of the throwing frame -/
theorem xx_V {cls : String} (S : CallFix p m c cc nL s args lw_all own) (hM : vx_Met l y (ws_ y bytes maxL ret) rm (PC D tys wc H.size (.ref b :: As)) QN (XR cls (va_A wc H.size)) mc ms (va_A wc H.size)) (hlk : Cond.methodLink own index y ∈ lw_all) (ok : MOK y bytes maxL ret n) (hP : va_P D vwCl ws H) (hD : va_D A ws) (hK : va_K D vwCl tys s) (hE : EV A s) (hS : va_S A s.heap H locs) (hA : ∀ q, s.heap.size ≤ q → A q)
    (isC isR : List Nat) (hC : isC.map (fun i => ws[i]?) = wc.map some) (hR : isR.map (fun i => ws[i]?) = wr.map some) (hnC : va_nd isC = true) (hn : va_nd isR = true) (hdis : ∀ i ∈ isR, i ∉ isC) {r : vw_C} (hc : vwCl[ci]? = some r) (q0 : Nat) (he : ws[q0]? = some (b, .inr (ci, fs))) (hcl : r.1 = y.cls) (hlen : As.length = n) (hsz : ls.size = nL) (hst : st0 = As.reverse ++ .ref b :: rest) (hrs : (rest.map fun v => v.category).sum ≤ 8) (hrm : rm.cells = mc ∧ rm.slots = ms) (hrf : rm.frames + 1 ≤ R.frames ∧ 8 + (maxL + 11) + rm.locals ≤ R.locals) (hf : cells + mc ≤ R.cells ∧ slots + ms ≤ R.slots) (hdg : decode cc pc = .ok (.invokevirtual index, 3))
    (kx : ∀ (q9 : Addr) (ce : Cell) (H1 : Heap) (locs1 : List Loc), H1[q9]? = some ce → ce.vm = .none → s.vm.findClass cls = some ce.cls → va_P D vwCl wr H1 → va_D A wr → va_S A s.heap H1 locs1 → vx_W p l e R s m args below meth c H1 locs1 (cells + mc) (slots + ms) Q (F0 m pc ls rest) q9) : W p l e R s m args below meth c H locs cells slots Q (F0 m pc ls st0) := by
  obtain ⟨o1, o2, o3, o4, o5⟩ := ok
  have hF := va_free (wc := wc) hD hS hA isC hC
  subst hst
  have hpv := xc_preV (q0 := q0) (As := As) hK hE hS hP hD hF isC hC hnC hc he
  rw [hcl] at hpv
  have hr := vx_runV (As := As) (rest := rest) (locs := locs) (below := below) (e := e) (meth := meth) (cells := cells) (slots := slots) (g := F0 m pc ls (As.reverse ++ .ref b :: rest)) S hM (cwV n S.2.2.2.2 (lw_V hlk o1 o2 o3 o4) rfl hrm.1 hrm.2 ⟨rfl, o5⟩ hrf) hpv rfl hlen hsz rfl (lv_room hrs) hdg hf
  intro T hT X
  rcases hr T hT X with ⟨v, st₀, t, T', L, h0, X', hL, e1, e2, hq, st⟩ | ⟨q, st₀, t, T', L, E, ce, h0, X', hL, e1, e2, ⟨rfl, hFt⟩, hce, hcv, hcl2, st⟩
  · exact hq.elim
  · have hS1 := xc_keep h0 e1 hS hF hL hFt
    obtain ⟨hz, hk⟩ := hFt
    rw [h0] at hz hk
    obtain ⟨j1, j2⟩ := va_join (wr := wr) (w1 := []) (H1 := T'.heap) hP hD isC isR hC hR hn hdis (fun q h1 h2 => by rw [e1]; exact hk q h1 h2) hF (fun k q h => by simp at h) ⟨fun i j p q h => by simp at h, fun k q h => by simp at h⟩
    rw [List.append_nil] at j1 j2
    obtain ⟨t2, a1, b1⟩ := kx q ce T'.heap (locs ++ L) (by rw [e1]; exact hce) hcv hcl2 j1 j2 hS1 T' rfl X'
    exact ⟨t2, st.trans a1, b1⟩
/-- it goes on to the caller -/
theorem xx_out {cls : String} {q9 : Addr} {ce : Cell} {mc2 ms2 : Nat} (hno : ∀ x ∈ c.exceptionTable.toList, False) (hlocks : meth.locks = false) (h1 : H[q9]? = some ce) (h2 : ce.vm = .none) (h3 : s.vm.findClass cls = some ce.cls) (hS : va_S A s.heap H locs) (hc : cells ≤ mc2) (hs : slots ≤ ms2) : vx_W p l e R s m args below meth c H locs cells slots (vx_MQ below QN (XR cls A) args s mc2 ms2 A) (F0 m pc ls rest) q9 :=
  vx_out (fun x hx => (hno x hx).elim) hlocks h1 h2 h3 (fun t ht _ => ⟨rfl, hS.F ht⟩) hS.2.2 hc hs
end Xcalls
section Xrows
variable {p : Program} {l : Launch} {e : Env} {R : Room} {s : State} {m : MethodId} {args : Array Value} {below : List Frame} {meth : Method} {c : Code} {H : Heap} {locs : List Loc} {cells slots : Nat} {Q : State → Prop}
variable {pc mc ms : Nat} {ls : Array Slot} {rest : List Value} {A : Nat → Prop} {D : va_G} {tys : List (ClassId × FieldType)} {ws w1 : va_W} {Wp : va_W → Prop} {cc : ByteArray} {a : Nat}
theorem tI {x v : Int32} (h : x = v) (k : W p l e R s m args below meth c H locs cells slots Q (F0 m pc ls (.int v :: rest))) : W p l e R s m args below meth c H locs cells slots Q (F0 m pc ls (.int x :: rest)) := h ▸ k
theorem tJ {x v : Int64} (h : x = v) (k : W p l e R s m args below meth c H locs cells slots Q (F0 m pc ls (.long v :: rest))) : W p l e R s m args below meth c H locs cells slots Q (F0 m pc ls (.long x :: rest)) := h ▸ k
theorem vin {i : Int32} {n k : Nat} (h0 : ¬ i < 0) (hk : i.toNatClampNeg = k) (hn : k < n) : vp_in i n := fun h => h.elim h0 (fun h => by omega)
theorem xa_iald (hx : p.tables.exec = Jvm.exec) (hb : c.code = cc) (hK : va_K D vwCl tys s) (hP : va_P D vwCl ws H) (q0 t0 : Nat) {cA : ClassId} {n : Nat} {f : Nat → Int32} (ha : ws[q0]? = some (a, .inl (cA, n, .inl f))) (ht : tys[t0]? = some (cA, .int)) {i : Int32} {k : Nat} {v : Int32} (h0 : ¬ i < 0) (hk : i.toNatClampNeg = k) (hn : k < n) (hv : f k = v) (hdg : decode cc pc = .ok (.iaload, 1))
    (kk : W p l e R s m args below meth c H locs cells slots Q (F0 m (pc + 1) ls (.int v :: rest))) : W p l e R s m args below meth c H locs cells slots Q (F0 m pc ls (.int i :: .ref a :: rest)) := va_iald hx hb hK hP q0 t0 ha ht (vin h0 hk hn) hdg (tI (by rw [hk]; exact hv) kk)
theorem xa_zald (hx : p.tables.exec = Jvm.exec) (hb : c.code = cc) (hK : va_K D vwCl tys s) (hP : va_P D vwCl ws H) (q0 t0 : Nat) {cA : ClassId} {n : Nat} {f : Nat → Int32} (ha : ws[q0]? = some (a, .inl (cA, n, .inl f))) (ht : tys[t0]? = some (cA, .boolean)) {i : Int32} {k : Nat} {v : Int32} (h0 : ¬ i < 0) (hk : i.toNatClampNeg = k) (hn : k < n) (hv : f k = v) (hdg : decode cc pc = .ok (.baload, 1))
    (kk : W p l e R s m args below meth c H locs cells slots Q (F0 m (pc + 1) ls (.int v :: rest))) : W p l e R s m args below meth c H locs cells slots Q (F0 m pc ls (.int i :: .ref a :: rest)) := va_zald hx hb hK hP q0 t0 ha ht (vin h0 hk hn) hdg (tI (by rw [hk]; exact hv) kk)
theorem xa_lald (hx : p.tables.exec = Jvm.exec) (hb : c.code = cc) (hK : va_K D vwCl tys s) (hP : va_P D vwCl ws H) (q0 t0 : Nat) {cA : ClassId} {n : Nat} {f : Nat → Int64} (ha : ws[q0]? = some (a, .inl (cA, n, .inr (.inl f)))) (ht : tys[t0]? = some (cA, .long)) {i : Int32} {k : Nat} {v : Int64} (h0 : ¬ i < 0) (hk : i.toNatClampNeg = k) (hn : k < n) (hv : f k = v) (hdg : decode cc pc = .ok (.laload, 1))
    (kk : W p l e R s m args below meth c H locs cells slots Q (F0 m (pc + 1) ls (.long v :: rest))) : W p l e R s m args below meth c H locs cells slots Q (F0 m pc ls (.int i :: .ref a :: rest)) := va_lald hx hb hK hP q0 t0 ha ht (vin h0 hk hn) hdg (tJ (by rw [hk]; exact hv) kk)
theorem xa_iast (hx : p.tables.exec = Jvm.exec) (hb : c.code = cc) (hK : va_K D vwCl tys s) (hP : va_P D vwCl ws H) (hD : va_D A ws) (hS : va_S A s.heap H locs) (q0 t0 : Nat) {cA : ClassId} {n : Nat} {f : Nat → Int32} (ha : ws[q0]? = some (a, .inl (cA, n, .inl f))) (ht : tys[t0]? = some (cA, .int)) {i x : Int32} {k : Nat} (h0 : ¬ i < 0) (hk : i.toNatClampNeg = k) (hn : k < n) (hw : ws.set q0 (a, .inl (cA, n, .inl (upd f k x))) = w1) (hdg : decode cc pc = .ok (.iastore, 1))
    (kk : ∀ (H1 : Heap) (locs1 : List Loc), va_P D vwCl w1 H1 → va_D A w1 → va_S A s.heap H1 locs1 → W p l e R s m args below meth c H1 locs1 cells slots Q (F0 m (pc + 1) ls rest)) : W p l e R s m args below meth c H locs cells slots Q (F0 m pc ls (.int x :: .int i :: .ref a :: rest)) := by
  subst hk; subst hw
  exact va_iast hx hb hK hP hD hS q0 t0 ha ht (vin h0 rfl hn) hdg kk
theorem xa_zast (hx : p.tables.exec = Jvm.exec) (hb : c.code = cc) (hK : va_K D vwCl tys s) (hP : va_P D vwCl ws H) (hD : va_D A ws) (hS : va_S A s.heap H locs) (q0 t0 : Nat) {cA : ClassId} {n : Nat} {f : Nat → Int32} (ha : ws[q0]? = some (a, .inl (cA, n, .inl f))) (ht : tys[t0]? = some (cA, .boolean)) {i x z : Int32} {k : Nat} (h0 : ¬ i < 0) (hk : i.toNatClampNeg = k) (hn : k < n) (hz : vp_nar .boolean x = z) (hw : ws.set q0 (a, .inl (cA, n, .inl (upd f k z))) = w1) (hdg : decode cc pc = .ok (.bastore, 1))
    (kk : ∀ (H1 : Heap) (locs1 : List Loc), va_P D vwCl w1 H1 → va_D A w1 → va_S A s.heap H1 locs1 → W p l e R s m args below meth c H1 locs1 cells slots Q (F0 m (pc + 1) ls rest)) : W p l e R s m args below meth c H locs cells slots Q (F0 m pc ls (.int x :: .int i :: .ref a :: rest)) := by
  subst hk; subst hz; subst hw
  exact va_zast hx hb hK hP hD hS q0 t0 ha ht (vin h0 rfl hn) hdg kk
theorem xa_last (hx : p.tables.exec = Jvm.exec) (hb : c.code = cc) (hK : va_K D vwCl tys s) (hP : va_P D vwCl ws H) (hD : va_D A ws) (hS : va_S A s.heap H locs) (q0 t0 : Nat) {cA : ClassId} {n : Nat} {f : Nat → Int64} (ha : ws[q0]? = some (a, .inl (cA, n, .inr (.inl f)))) (ht : tys[t0]? = some (cA, .long)) {i : Int32} {x : Int64} {k : Nat} (h0 : ¬ i < 0) (hk : i.toNatClampNeg = k) (hn : k < n) (hw : ws.set q0 (a, .inl (cA, n, .inr (.inl (vp_updL f k x)))) = w1) (hdg : decode cc pc = .ok (.lastore, 1))
    (kk : ∀ (H1 : Heap) (locs1 : List Loc), va_P D vwCl w1 H1 → va_D A w1 → va_S A s.heap H1 locs1 → W p l e R s m args below meth c H1 locs1 cells slots Q (F0 m (pc + 1) ls rest)) : W p l e R s m args below meth c H locs cells slots Q (F0 m pc ls (.long x :: .int i :: .ref a :: rest)) := by
  subst hk; subst hw
  exact va_last hx hb hK hP hD hS q0 t0 ha ht (vin h0 rfl hn) hdg kk
/-- a new array of a class that is known -/
theorem xa_newa (hx : p.tables.exec = Jvm.exec) (hb : c.code = cc) {atype : ArrayType} (harr : (Cond.arrayClass (newarray.typeOf atype)).before args s = true) {ty : FieldType} (hty : newarray.typeOf atype = ty) (hK : va_K D vwCl tys s) (hP : va_P D vwCl ws H) (hD : va_D A ws) (hS : va_S A s.heap H locs) (hA : ∀ q, s.heap.size ≤ q → A q) (t0 : Nat) {cA : ClassId} (ht : tys[t0]? = some (cA, ty)) (hpr : ∀ (U : State) (k : ClassId), va_RA U k ty = (U.vm.findClass ("[" ++ ty.toString) = some k))
    {n : Int32} {N' : Nat} {a0 : vp_A} (ha : ∀ cA : ClassId, vp_cell cA a0 = arrV cA N' (fun _ => defaultValue ty)) (hn : ¬ n < 0) (hN : n.toNatClampNeg = N') (hbytes : N' * componentBytes ty ≤ 536870912) (hcells : cells + 1 ≤ R.cells) (hslots : slots + N' ≤ R.slots) (hdg : decode cc pc = .ok (.newarray atype, 2))
    (kk : ∀ (q : Nat) (H1 : Heap), va_P D vwCl (ws ++ [(q, .inl (cA, a0))]) H1 → va_D A (ws ++ [(q, .inl (cA, a0))]) → va_S A s.heap H1 locs → W p l e R s m args below meth c H1 locs (cells + 1) (slots + N') Q (F0 m (pc + 2) ls (.ref q :: rest))) : W p l e R s m args below meth c H locs cells slots Q (F0 m pc ls (.int n :: rest)) := by
  refine va_newa hx hb harr hty hK hP hD hS hA ha hn hN hbytes hcells hslots hdg (fun q cB H1 hK2 hP hD hS => ?_)
  have h1 := (hK.2 t0 _ ht).2
  have h2 := (hK2.2 tys.length (cB, ty) (by simp)).2
  rw [hpr] at h1 h2
  have h3 : cB = cA := Option.some.inj (h2.symm.trans h1)
  subst h3
  exact kk q H1 hP hD hS
theorem xr_i {v : Int32} (hx : p.tables.exec = Jvm.exec) (hb : c.code = cc) (hr : meth.sig.returnType = some .int) (hlocks : meth.locks = false) (hP : va_P D vwCl ws H) (hD : va_D A ws) (hS : va_S A s.heap H locs) (is : List Nat) (h1 : is.map (fun i => ws[i]?) = w1.map some) (hn : va_nd is = true) (hc : cells ≤ mc) (hs : slots ≤ ms) (hdg : decode cc pc = .ok (.ireturn, 1)) : W p l e R s m args below meth c H locs cells slots (MQ below (QR D w1 (some (.int v)) A) args s mc ms A) (F0 m pc ls [.int v]) :=
  W.widen hc hs (W.iret hx hb hr (fun t ht hW => ⟨rfl, by rw [ht]; exact va_P_subm hP is h1, hD.sub is hn h1, hS.F ht⟩) hS.2.2 hdg hlocks)
theorem xr_z {v : Int32} (hx : p.tables.exec = Jvm.exec) (hb : c.code = cc) (hr : meth.sig.returnType = some .boolean) (hlocks : meth.locks = false) (hP : va_P D vwCl ws H) (hD : va_D A ws) (hS : va_S A s.heap H locs) (is : List Nat) (h1 : is.map (fun i => ws[i]?) = w1.map some) (hn : va_nd is = true) (hz : narrow .boolean (.int v) = .int v) (hc : cells ≤ mc) (hs : slots ≤ ms) (hdg : decode cc pc = .ok (.ireturn, 1)) : W p l e R s m args below meth c H locs cells slots (MQ below (QR D w1 (some (.int v)) A) args s mc ms A) (F0 m pc ls [.int v]) :=
  W.widen hc hs (W.zret hx hb hr hz (fun t ht hW => ⟨rfl, by rw [ht]; exact va_P_subm hP is h1, hD.sub is hn h1, hS.F ht⟩) hS.2.2 hdg hlocks)
theorem xr_l {v : Int64} (hx : p.tables.exec = Jvm.exec) (hb : c.code = cc) (hr : meth.sig.returnType = some .long) (hlocks : meth.locks = false) (hP : va_P D vwCl ws H) (hD : va_D A ws) (hS : va_S A s.heap H locs) (is : List Nat) (h1 : is.map (fun i => ws[i]?) = w1.map some) (hn : va_nd is = true) (hc : cells ≤ mc) (hs : slots ≤ ms) (hdg : decode cc pc = .ok (.lreturn, 1)) : W p l e R s m args below meth c H locs cells slots (MQ below (QR D w1 (some (.long v)) A) args s mc ms A) (F0 m pc ls [.long v]) :=
  W.widen hc hs (W.lret hx hb hr (fun t ht hW => ⟨rfl, by rw [ht]; exact va_P_subm hP is h1, hD.sub is hn h1, hS.F ht⟩) hS.2.2 hdg hlocks)
theorem xr_d {v : UInt64} (hx : p.tables.exec = Jvm.exec) (hb : c.code = cc) (hr : meth.sig.returnType = some .double) (hlocks : meth.locks = false) (hP : va_P D vwCl ws H) (hD : va_D A ws) (hS : va_S A s.heap H locs) (is : List Nat) (h1 : is.map (fun i => ws[i]?) = w1.map some) (hn : va_nd is = true) (hc : cells ≤ mc) (hs : slots ≤ ms) (hdg : decode cc pc = .ok (.dreturn, 1)) : W p l e R s m args below meth c H locs cells slots (MQ below (QR D w1 (some (.double v)) A) args s mc ms A) (F0 m pc ls [.double v]) :=
  W.widen hc hs (W.dret hx hb hr (fun t ht hW => ⟨rfl, by rw [ht]; exact va_P_subm hP is h1, hD.sub is hn h1, hS.F ht⟩) hS.2.2 hdg hlocks)
theorem xr_v (hx : p.tables.exec = Jvm.exec) (hb : c.code = cc) (hr : meth.sig.returnType = none) (hlocks : meth.locks = false) (hP : va_P D vwCl ws H) (hD : va_D A ws) (hS : va_S A s.heap H locs) (is : List Nat) (h1 : is.map (fun i => ws[i]?) = w1.map some) (hn : va_nd is = true) (hc : cells ≤ mc) (hs : slots ≤ ms) (hdg : decode cc pc = .ok (.return_, 1)) : W p l e R s m args below meth c H locs cells slots (MQ below (QR D w1 none A) args s mc ms A) (F0 m pc ls []) :=
  W.widen hc hs (W.vret hx hb hr (fun t ht hW => ⟨rfl, by rw [ht]; exact va_P_subm hP is h1, hD.sub is hn h1, hS.F ht⟩) hS.2.2 hdg hlocks)
theorem xr_e (hx : p.tables.exec = Jvm.exec) (hb : c.code = cc) (hr : meth.sig.returnType = none) (hlocks : meth.locks = false) (hP : va_P D vwCl ws H) (hD : va_D A ws) (hS : va_S A s.heap H locs) (hw : Wp ws) (hc : cells ≤ mc) (hs : slots ≤ ms) (hdg : decode cc pc = .ok (.return_, 1)) : W p l e R s m args below meth c H locs cells slots (MQ below (QE D Wp none A) args s mc ms A) (F0 m pc ls []) :=
  W.widen hc hs (W.vret hx hb hr (fun t ht hW => ⟨rfl, ⟨ws, hw, by rw [ht]; exact hP, hD⟩, hS.F ht⟩) hS.2.2 hdg hlocks)
end Xrows
