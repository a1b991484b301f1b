-- ===== end of PART A; then your names; then what follows =====
/-! THE CLAIM OUT OF ONE WALK OF THE LAW'S BODY. Your part is whole_start (and what it stands on); all else here is the same for every law, but numbers. -/
def R_law : String := "QualitativeSimulatorLaw"
def lw_P (b : Addr) (xs : List Int32) (args : Array Value) (s : State) : Prop := args = #[.ref b] ∧ s.IntsAt b xs ∧ xs.length ≤ 2560 ∧ (Jvm.Cond.and given_1 narrow_1).before args s = true
/-- what a walk over the start with the record d0 says of its end, said of the start itself -/
theorem lw_closed {s t : State} {o : Outcome} {d0 : Drawn} {L : List Loc} {k n : Nat} (hd0 : s.drawn.sameBut d0 lw_cs) (hv : ∃ v, o = .returned v) (hW : (s.setDrawn d0).WarmedH t.vm) (hs : (s.setDrawn d0).sameButNew ({ t with vm := s.vm } : State) L k n) : State.butDraws s t lw_cs (fun t1 => Framed s o t1 L k n) := by
  have h2 : t.drawn = d0 := congrArg State.drawn hs.1
  refine ⟨⟨hv, hW, State.sameButNew.setDrawn hs s.drawn⟩, ?_, by decide⟩
  rw [h2]
  exact hd0
def lw_Q (_ : Array Value) (s : State) (o : Outcome) (t : State) : Prop := o = .returned (some (.int 1)) ∧ State.butDraws s t lw_cs (fun t1 => Framed s o t1 [] 601024 7293034)
def lw_Z (below : List Frame) (a : Array Value) (s : State) : State → Prop := fun t => ∃ o, t.status = .running ∧ Ended t below o ∧ lw_Q a s o t
/-- the law's own end, with 1 on the stack, nothing written that was there before, its room as the claim has it; d0: the record of draws at this point (at the entry s.drawn: begin with 'refine W.base ?_' and 'have hd0 := Drawn.sameBut.refl s.drawn lw_cs') -/
theorem lw_ret {p : Program} {l : Launch} {e : Env} {s : State} {m : MethodId} {below : List Frame} {meth : Method} {c : Code} {b : Nat} {d0 : Drawn} (hd0 : s.drawn.sameBut d0 lw_cs) (hx : p.tables.exec = Jvm.exec) (hb : c.code = code) (hr : meth.sig.returnType = ret) (hlocks : meth.locks = false) {pc : Nat} {H : Heap} {ls : Array Slot} (hdg : decode code pc = .ok (.ireturn, 1)) : W p l e room_1 (s.setDrawn d0) m #[Value.ref b] below meth c H [] 601024 7293034 (lw_Z below #[Value.ref b] s) (F0 m pc ls [.int 1]) := by
  intro T hT X
  obtain ⟨fs, hret, hrun, hended, hW, hframe⟩ := X.leave (v := some (.int 1)) (hlocks := hlocks) (fun h => by rw [hr] at h; cases h)
  have hmeth' : T.vm.method? m = some meth := X.method'
  refine ⟨T.setFrames fs, ?_, .returned (some (.int 1)), hrun, hended, rfl, lw_closed hd0 ⟨_, rfl⟩ hW hframe⟩
  jvm_step X.here [X.here.top, hx, hb, hdg, hmeth', hr, ret, narrow_b1]
  (try refine ⟨rfl, ?_⟩); (try refine ⟨rfl, ?_⟩)
  first | (intro acts; rw [hret _ acts rfl rfl rfl]) | rw [hret _ _ rfl rfl rfl]
  exact Steps.refl _
/-- what holds at the law's entry: the machine, the code, the tables' words (any of lw_tbl by 'hts w (by decide +kernel)'), the script of L ints xs at the cell b, what the Statement gives of the start (any of its parts by flat_of_before) -/
def lw_At (p : Program) (s : State) (m : MethodId) (meth : Method) (c : Code) (b L : Nat) (xs : Nat → Int32) : Prop :=
  p.tables.exec = Jvm.exec ∧ c.code = code ∧ meth.sig.returnType = ret ∧ c.maxLocals = 9 ∧ s.vm.findClass R_law = some m.cls ∧ (∀ w ∈ lw_tbl, w.before #[Value.ref b] s = true) ∧ va_X b L xs s s.heap ∧ b < s.heap.size ∧ meth.locks = false ∧ (Jvm.Cond.and given_1 narrow_1).before #[Value.ref b] s = true

/-- the claim's room, and more elements: what a start with a launch of 8080000 elements has -/
abbrev room_2 : Jvm.Room := { frames := 2048, cells := 601024, slots := 7364809, locals := 84000 }
/-- what the law's walk holds all the way, over the script of 1450 ints -/
def LC (p : Program) (l : Launch) (s : State) (m : MethodId) (meth : Method) (c : Code) (b : Nat) (xs : Nat → Int32) (A : Nat → Prop) (dC : Nat → ClassId) (dI : Nat → Nat → Nat) (cI cZ cJ cD : ClassId) : Prop :=
  p.tables.exec = Jvm.exec ∧ c.code = cL_law ∧ meth.sig.returnType = ret ∧ c.maxLocals = 9 ∧ s.vm.findClass RL = some m.cls ∧ (∀ w ∈ lw_all, w.before #[Value.ref b] s = true) ∧ meth.locks = false ∧ va_X b 1450 xs s s.heap ∧ b < s.heap.size ∧ va_K (dC, dI) vwCl (tyL cI cZ cJ cD) s ∧ EV A s ∧ (∀ q, s.heap.size ≤ q → A q) ∧ (∀ q, A q → s.heap.size ≤ q) ∧ ¬ A b ∧ l.stackTraces = false
/-- the end: 29189 different new cells of 250 slots each -/
def rf_Q : Array Value → State → Outcome → State → Prop := fun _ s o t => o = .returned (some (.int 1)) ∧ ∃ L : List Nat, L.length = 29189 ∧ L.Nodup ∧ ∀ q ∈ L, s.heap.size ≤ q ∧ ∃ cell : Cell, t.heap[q]? = some cell ∧ cell.slots.size = 250
abbrev rf_Z (below : List Frame) (b : Nat) (s : State) : State → Prop := MQ below rf_Q #[Value.ref b] s 29230 7363809 (fun _ => True)
set_option maxRecDepth 100000 in
set_option maxHeartbeats 4000000 in
theorem ev_start {s : State} {b : Nat} (hts0 : ∀ w ∈ lw_tbl, w.before #[Value.ref b] s = true) (hgv : (Jvm.Cond.and given_1 narrow_1).before #[Value.ref b] s = true) : EV (fun q => s.heap.size ≤ q) s := by
  have hs := flat_of_before _ hgv
  have hA : ∀ a : Nat, a < s.heap.size → ¬ (s.heap.size ≤ a) := fun a h => Nat.not_le.mpr h
  have sr : ∀ (k : Nat) (tx : String), Cond.stringRef RX3 k tx ∈ lw_tbl → (Cond.exactly (Term.string RX3 k) "java/lang/String").before #[Value.ref b] s = true → ∃ sa, vk_R RX3 k tx sa s := by
    intro k tx h1 h2
    obtain ⟨a, c, cell, kk, h3, -⟩ := Cond.exactly_spec h2
    exact ⟨a, vk_R.of (hts0 _ h1) h3⟩
  refine ⟨vx_Zqof (hts0 _ (lw_t2 (List.mem_of_getElem? (i := 184) rfl))) (hts0 _ (lw_t1 (List.mem_of_getElem? (i := 6) rfl))) (hs _ (by decide +kernel)) hA, vx_Zqof (hts0 _ (lw_t2 (List.mem_of_getElem? (i := 186) rfl))) (hts0 _ (lw_t1 (List.mem_of_getElem? (i := 6) rfl))) (hs _ (by decide +kernel)) hA, ⟨va_Nw.of rfl (hts0 _ (lw_t2 (List.mem_of_getElem? (i := 161) rfl))), va_Nw.of rfl (hts0 _ (lw_t2 (List.mem_of_getElem? (i := 163) rfl))), va_Nw.of rfl (hts0 _ (lw_t2 (List.mem_of_getElem? (i := 165) rfl)))⟩, va_Nw.of rfl (hts0 _ (lw_t1 (List.mem_of_getElem? (i := 26) rfl))), va_Nw.of rfl (hts0 _ (lw_t1 (List.mem_of_getElem? (i := 86) rfl))), va_Nw.of rfl (hts0 _ (lw_t1 (List.mem_of_getElem? (i := 212) rfl))), va_Nw.of rfl (hts0 _ (lw_t2 (List.mem_of_getElem? (i := 159) rfl))), va_Nw.of rfl (hts0 _ (lw_t2 (List.mem_of_getElem? (i := 228) rfl))), va_Nw.of rfl (hts0 _ (lw_t3 (List.mem_of_getElem? (i := 21) rfl))), va_Nc.of (args := #[Value.ref b]) (hs _ (by decide +kernel)), va_Nc.of (args := #[Value.ref b]) (hs _ (by decide +kernel)), va_Nc.of (args := #[Value.ref b]) (hs _ (by decide +kernel)), va_Nc.of (args := #[Value.ref b]) (hs _ (by decide +kernel)), va_Nc.of (args := #[Value.ref b]) (hs _ (by decide +kernel)), va_Nc.of (args := #[Value.ref b]) (hs _ (by decide +kernel)), sr _ _ (lw_t2 (List.mem_of_getElem? (i := 198) rfl)) (hs _ (by decide +kernel)), sr _ _ (lw_t2 (List.mem_of_getElem? (i := 225) rfl)) (hs _ (by decide +kernel)), sr _ _ (lw_t3 (List.mem_of_getElem? (i := 14) rfl)) (hs _ (by decide +kernel)), sr _ _ (lw_t3 (List.mem_of_getElem? (i := 47) rfl)) (hs _ (by decide +kernel)), sr _ _ (lw_t3 (List.mem_of_getElem? (i := 28) rfl)) (hs _ (by decide +kernel)), sr _ _ (lw_t3 (List.mem_of_getElem? (i := 80) rfl)) (hs _ (by decide +kernel))⟩
set_option maxRecDepth 100000 in
theorem k_start {s : State} {b : Nat} (hts : ∀ w ∈ lw_all, w.before #[Value.ref b] s = true) : ∃ (dC : Nat → ClassId) (dI : Nat → Nat → Nat) (cI cZ cJ cD : ClassId), va_K (dC, dI) vwCl (tyL cI cZ cJ cD) s := by
  obtain ⟨c0, iS0, hKn0⟩ := u_known (C := RX0) (T := TX0) (N := 13) (n := 13) hts inX0 (hts _ q85)
  obtain ⟨c1, iS1, hKn1⟩ := u_known (C := RX1) (T := TX1) (N := 13) (n := 13) hts inX1 (hts _ q25)
  obtain ⟨c2, iS2, hKn2⟩ := u_known (C := RX2) (T := TX2) (N := 4) (n := 4) hts inX2 (hts _ q146)
  obtain ⟨c3, iS3, hKn3⟩ := u_known (C := RX3) (T := TX3) (N := 4) (n := 4) hts inX3 (hts _ q17)
  obtain ⟨c4, iS4, hKn4⟩ := u_known (C := RX4) (T := TX4) (N := 20) (n := 20) hts inX4 (hts _ q681)
  obtain ⟨cI, kI, oI, uI1, uI2, uI3⟩ := Cond.arrayClass_spec (hts _ q83)
  obtain ⟨cZ, kZ, oZ, uZ1, uZ2, uZ3⟩ := Cond.arrayClass_spec (hts _ q143)
  obtain ⟨cJ, kJ, oJ, uJ1, uJ2, uJ3⟩ := Cond.arrayClass_spec (hts _ q144)
  obtain ⟨cD, kD, oD, uD1, uD2, uD3⟩ := Cond.arrayClass_spec (hts _ q943)
  refine ⟨fun k => if k = 0 then c0 else if k = 1 then c1 else if k = 2 then c2 else if k = 3 then c3 else c4, fun k => if k = 0 then iS0 else if k = 1 then iS1 else if k = 2 then iS2 else if k = 3 then iS3 else iS4, cI, cZ, cJ, cD, ?_, ?_⟩
  · intro k q hq
    match k, hq with
    | 0, hq => cases hq; exact hKn0
    | 1, hq => cases hq; exact hKn1
    | 2, hq => cases hq; exact hKn2
    | 3, hq => cases hq; exact hKn3
    | 4, hq => cases hq; exact hKn4
    | k + 5, hq => simp [vwCl] at hq
  · intro k q hk
    match k, hk with
    | 0, hk => cases hk; exact ⟨fun n z => ⟨fun k h => (by cases h), kI, uI2, oI, uI3⟩, uI1⟩
    | 1, hk => cases hk; exact ⟨fun n z => ⟨fun k h => (by cases h), kZ, uZ2, oZ, uZ3⟩, uZ1⟩
    | 2, hk => cases hk; exact ⟨fun n z => ⟨fun k h => (by cases h), kJ, uJ2, oJ, uJ3⟩, uJ1⟩
    | 3, hk => cases hk; exact ⟨fun n z => ⟨fun k h => (by cases h), kD, uD2, oD, uD3⟩, uD1⟩
    | k + 4, hk => simp [tyL] at hk
