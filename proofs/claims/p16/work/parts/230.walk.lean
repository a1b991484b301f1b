/-! THE REFUTATION, over a start that is given: explore, then 289 times ways(100) -/
def rf_script : List Int32 := [7, 0, 0, 0, 0] ++ (List.replicate 289 [21, 100, 0, 0, 0]).flatten
set_option maxRecDepth 100000 in
theorem rf_len : rf_script.length = 1450 := by decide +kernel
set_option maxRecDepth 100000 in
theorem rf_21 : ∀ j : Nat, j < 289 → rf_script.getD (5 * j + 5) 0 = 21 := by decide +kernel
set_option maxRecDepth 100000 in
theorem rf_100 : ∀ j : Nat, j < 289 → rf_script.getD (5 * j + 6) 0 = 100 := by decide +kernel
set_option maxHeartbeats 4000000 in
theorem rf_walk (l : Launch) (hflags : l.flags = flags0) (b : Addr) : MetFree l x (headSpec (Jvm.Cond.code x code maxLocals ret :: tables_1) room_2) (lw_P b rf_script) (fun _ _ _ _ _ => True) rf_Q := by
  refine MetFree.of_bodyS (code := code) (maxLocals := maxLocals) (ret := ret) (by decide) ?_ ?_
  · intro args s m h hn
    obtain ⟨meth, c, h1, h2, h3, h4, h5, h6, -, -⟩ := Cond.code_spec hn (atoms_spec (ws := Jvm.Cond.code x code maxLocals ret :: tables_1) h _ List.mem_cons_self)
    exact ⟨meth, c, h1, h2, h3, h4, h5, h6⟩
  · intro p e s m args below meth c s₁ B hml0 hP _
    obtain ⟨rfl, hx, hbd, hgv⟩ := hP
    obtain ⟨scr, harrAt, hlist, hof, hsmall⟩ := hx
    obtain ⟨hcb, hkn, -, -⟩ := State.arrayAt?_spec harrAt
    have hown : s.vm.findClass R_law = some m.cls := findClass_of_methodNamed B.named
    have hts0 : ∀ c ∈ (Jvm.Cond.code x code maxLocals ret :: tables_1), c.before #[Value.ref b] s = true := atoms_spec (ws := Jvm.Cond.code x code maxLocals ret :: tables_1) B.pre
    have hts : ∀ w ∈ lw_tbl, w.before #[Value.ref b] s = true := k2_hts_sels lw_privs (fun w hw => hts0 w (List.mem_cons_of_mem _ hw)) lw_privs_ok
    have hml : c.maxLocals = 9 := B.maxLocals_eq (hts0 _ List.mem_cons_self)
    have X₀ : Stand p l e room_2 s m #[Value.ref b] below meth c s₁ [] 0 0 := Stand.of_body B
    have hh0 : s₁.heap = s.heap := by rw [B.state]; rfl
    have hsz : scr.slots.size = rf_script.length := by rw [← Array.length_toList, hlist, List.length_map]
    have hval : ∀ j : Nat, j < rf_script.length → scr.slots[j]? = some (.int (rf_script.getD j 0)) := fun j hj => by
      rw [← Array.getElem?_toList, hlist]
      simp [hj]
    have hbl : b < s.heap.size := (Array.getElem?_eq_some_iff.mp hcb).1
    have hX : va_X b rf_script.length (fun j => rf_script.getD j 0) s s.heap := ⟨scr, hcb, hof, hkn, hsz, hval⟩
    rw [rf_len] at hX
    have K : W p l e room_2 s m #[Value.ref b] below meth c s₁.heap [] 0 0 (rf_Z below b s) (entryFrame m ([Value.ref b] : List Value).toArray 9) := by
      rw [hh0]
      exact rf_start l hflags rfl rf_21 rf_100 ⟨B.exec, B.bytes, B.returns, hml, hown, hts, hX, hbl, B.notSynchronized, hgv⟩
    obtain ⟨t, a1, o, b1, b2, b3, -⟩ := K s₁ rfl X₀
    exact ⟨t, o, a1, b1, b2, b3⟩
/-- so many places of a list that hold 250: so large is its sum -/
theorem sum_low : ∀ (ys L : List Nat), L.Nodup → (∀ i ∈ L, ys[i]? = some 250) → 250 * L.length ≤ ys.sum := by
  intro ys
  induction ys with
  | nil =>
    intro L _ h
    cases L with
    | nil => exact Nat.zero_le _
    | cons i L => exact absurd (h i List.mem_cons_self) (by simp)
  | cons y ys ih =>
    intro L hL h
    have key : ∀ M : List Nat, M.Nodup → 0 ∉ M → (∀ i ∈ M, (y :: ys)[i]? = some 250) → 250 * M.length ≤ ys.sum := by
      intro M hM h0 hM2
      have h1 := ih (M.map (fun i => i - 1)) ?_ ?_
      · rwa [List.length_map] at h1
      · refine List.pairwise_map.mpr (List.Pairwise.imp_of_mem ?_ hM)
        intro a c ha hc hac he
        have ha0 : a ≠ 0 := fun z => h0 (z ▸ ha)
        have hc0 : c ≠ 0 := fun z => h0 (z ▸ hc)
        exact hac (by omega)
      · intro i hi
        obtain ⟨k, hk, rfl⟩ := List.mem_map.mp hi
        have hk0 : k ≠ 0 := fun z => h0 (z ▸ hk)
        have h2 := hM2 k hk
        obtain ⟨k', rfl⟩ := Nat.exists_eq_succ_of_ne_zero hk0
        simpa using h2
    rw [List.sum_cons]
    by_cases h0 : 0 ∈ L
    · have h1 := key (L.erase 0) (List.Nodup.erase 0 hL) (List.Nodup.not_mem_erase hL) (fun i hi => h i (List.mem_of_mem_erase hi))
      have h2 := List.length_erase_of_mem h0
      have h3 := List.length_pos_of_mem h0
      have h4 : y = 250 := by simpa using h 0 h0
      omega
    · have h1 := key L hL h0 h
      omega
theorem rf_sum {H : Heap} {n0 : Nat} {L : List Nat} (hL : L.Nodup) (h : ∀ q ∈ L, n0 ≤ q ∧ ∃ cell : Cell, H[q]? = some cell ∧ cell.slots.size = 250) : 250 * L.length ≤ ((H.toList.drop n0).map (fun c => c.slots.size)).sum := by
  have h1 := sum_low ((H.toList.drop n0).map (fun c => c.slots.size)) (L.map (fun q => q - n0)) ?_ ?_
  · rwa [List.length_map] at h1
  · refine List.pairwise_map.mpr (List.Pairwise.imp_of_mem ?_ hL)
    intro a c ha hc hac he
    have h2 := (h a ha).1
    have h3 := (h c hc).1
    exact hac (by omega)
  · intro i hi
    obtain ⟨q, hq, rfl⟩ := List.mem_map.mp hi
    obtain ⟨h2, cell, h3, h4⟩ := h q hq
    rw [List.getElem?_map, List.getElem?_drop, show n0 + (q - n0) = q by omega, Array.getElem?_toList, h3]
    exact congrArg some h4
/-- the room of the claim is passed -/
theorem rf_notFramed {args : Array Value} {s t : State} {o : Outcome} {cs : List Choice} {Ls : List Loc} (hQ : rf_Q args s o t) : ¬ State.butDraws s t cs (fun t1 => Framed s o t1 Ls 601024 7293034) := by
  intro hF
  obtain ⟨-, L, h1, h2, h3⟩ := hQ
  have h4 : ((t.heap.toList.drop s.heap.size).map (fun c => c.slots.size)).sum ≤ 7293034 := hF.1.2.2.2.2.2.2.1
  have h5 := rf_sum h2 h3
  rw [h1] at h5
  omega
/-- THE STATEMENT FALLS at every start of its own with this script and a little more room -/
theorem rf_falls {l : Launch} {p : Program} {e : Env} {s : State} {m : MethodId} {b : Addr} {below : List Frame} (hfl : l.flags = flags0) (h : AtStart classFile x code maxLocals ret World_1 tables_1 room_1 Calls_1 rest_1 Pre_1 l p e s m #[Value.ref b] below) (h2 : (headSpec (Jvm.Cond.code x code maxLocals ret :: tables_1) room_2).applies x e.platform s = true) (hi : s.IntsAt b rf_script) : RefutedClaimed_1_1 ∧ RefutedClaimed_1_2 := by
  obtain ⟨hL, hW, ha, hle, hc, hk, hf, hfit, hheap, happ, hca, hre, hpre⟩ := id h
  obtain ⟨n, o, g1, g2, g3, hQ⟩ := rf_walk l hfl b p e ha hc hk s m #[Value.ref b] below hf ((Spec.applies_iff_loose hf).mp h2).1 ⟨rfl, hi, by rw [rf_len]; decide, hpre⟩ trivial
  exact ⟨⟨l, p, e, s, m, #[Value.ref b], below, hfl, h, n, o, g1, g2, g3, fun hP => rf_notFramed hQ hP.2⟩, ⟨l, p, e, s, m, #[Value.ref b], below, hfl, h, n, o, g1, g2, g3, fun hP => rf_notFramed hQ hP.2⟩⟩
/-- what falls isn't so: a run has one end -/
theorem rf_not1 (h : RefutedClaimed_1_1) : ¬ Claimed_1_1 := by
  intro hC
  obtain ⟨l, p, e, s, m, args, below, hfl, ⟨hL, hW, ha, hle, hc, hk, hf, hfit, hheap, happ, hca, hre, hpre⟩, n, o, g1, g2, g3, hn⟩ := h
  obtain ⟨n', o', k1, k2, k3, hP⟩ := hC l hfl hL hW p e ha hc hk s m args below hf hfit hheap happ ⟨hca, hre, hpre⟩
  have hnn : n = n' := by
    rcases Nat.lt_trichotomy n n' with z | z | z
    · exact absurd (k1 n z) g3.not_within
    · exact z
    · exact absurd (g1 n' z) k3.not_within
  subst hnn
  obtain rfl := g3.outcome_unique k3
  exact hn hP
theorem rf_not2 (h : RefutedClaimed_1_2) : ¬ Claimed_1_2 := by
  intro hC
  obtain ⟨l, p, e, s, m, args, below, hfl, ⟨hL, hW, ha, hle, hc, hk, hf, hfit, hheap, happ, hca, hre, hpre⟩, n, o, g1, g2, g3, hn⟩ := h
  obtain ⟨n', o', k1, k2, k3, hP⟩ := hC l hfl hL hW p e ha hc hk s m args below hf hfit hheap happ ⟨hca, hre, hpre⟩
  have hnn : n = n' := by
    rcases Nat.lt_trichotomy n n' with z | z | z
    · exact absurd (k1 n z) g3.not_within
    · exact z
    · exact absurd (g1 n' z) k3.not_within
  subst hnn
  obtain rfl := g3.outcome_unique k3
  exact hn hP
