/-! a pool of arrays beside the world; worlds in another order; a contract's end that names some world and some answer -/
def pool (cJ : ClassId) (PL : List (Nat × (Nat → Int64))) : va_W := PL.map (fun p => (p.1, .inl (cJ, 250, .inr (.inl p.2))))
theorem pool_app (cJ : ClassId) (P N : List (Nat × (Nat → Int64))) : pool cJ (P ++ N) = pool cJ P ++ pool cJ N := List.map_append
theorem pool_one (cJ : ClassId) (q : Nat) (f : Nat → Int64) : pool cJ [(q, f)] = [(q, .inl (cJ, 250, .inr (.inl f)))] := rfl
theorem vP_mem {D : va_G} {cl : List vw_C} {ws : va_W} {H : Heap} (h : va_P D cl ws H) {q : Nat × va_E} (hq : q ∈ ws) : va_at D cl q H := by
  obtain ⟨k, hk⟩ := List.getElem?_of_mem hq
  exact h k q hk
theorem vP_of {D : va_G} {cl : List vw_C} {ws : va_W} {H : Heap} (h : ∀ q ∈ ws, va_at D cl q H) : va_P D cl ws H := fun k q hk => h q (List.mem_of_getElem? hk)
theorem vP_perm {D : va_G} {cl : List vw_C} {ws ws' : va_W} {H : Heap} (hp : ws.Perm ws') (h : va_P D cl ws H) : va_P D cl ws' H := vP_of (fun q hq => vP_mem h (hp.mem_iff.mpr hq))
theorem vP_left {D : va_G} {cl : List vw_C} {ws ws' : va_W} {H : Heap} (h : va_P D cl (ws ++ ws') H) : va_P D cl ws H := vP_of (fun q hq => vP_mem h (List.mem_append_left _ hq))
theorem vP_right {D : va_G} {cl : List vw_C} {ws ws' : va_W} {H : Heap} (h : va_P D cl (ws ++ ws') H) : va_P D cl ws' H := vP_of (fun q hq => vP_mem h (List.mem_append_right _ hq))
theorem vP_app {D : va_G} {cl : List vw_C} {ws ws' : va_W} {H : Heap} (h : va_P D cl ws H) (h' : va_P D cl ws' H) : va_P D cl (ws ++ ws') H := vP_of (fun q hq => (List.mem_append.mp hq).elim (fun z => vP_mem h z) (fun z => vP_mem h' z))
theorem vD_nodup {A : Nat → Prop} {ws : va_W} (h : va_D A ws) : (ws.map (fun p => p.1)).Nodup := by
  refine List.pairwise_iff_getElem.mpr (fun i j hi hj hij he => ?_)
  rw [List.length_map] at hi hj
  rw [List.getElem_map, List.getElem_map] at he
  have := h.1 i j _ _ (List.getElem?_eq_getElem hi) (List.getElem?_eq_getElem hj) he
  omega
theorem vD_in {A : Nat → Prop} {ws : va_W} (h : va_D A ws) {q : Nat × va_E} (hq : q ∈ ws) : A q.1 := by
  obtain ⟨k, hk⟩ := List.getElem?_of_mem hq
  exact h.2 k q hk
theorem vD_of {A : Nat → Prop} {ws : va_W} (h1 : (ws.map (fun p => p.1)).Nodup) (h2 : ∀ q ∈ ws, A q.1) : va_D A ws := by
  refine ⟨fun i j p q hi hj he => ?_, fun k q hk => h2 q (List.mem_of_getElem? hk)⟩
  have e1 : (ws.map (fun p => p.1))[i]? = some p.1 := by rw [List.getElem?_map, hi]; rfl
  have e2 : (ws.map (fun p => p.1))[j]? = some q.1 := by rw [List.getElem?_map, hj]; rfl
  have l1 : i < (ws.map (fun p => p.1)).length := (List.getElem?_eq_some_iff.mp e1).1
  have l2 : j < (ws.map (fun p => p.1)).length := (List.getElem?_eq_some_iff.mp e2).1
  have g1 := (List.getElem?_eq_some_iff.mp e1).2
  have g2 := (List.getElem?_eq_some_iff.mp e2).2
  rcases Nat.lt_trichotomy i j with h | h | h
  · exact absurd (g1.trans (he.trans g2.symm)) (List.pairwise_iff_getElem.mp h1 i j l1 l2 h)
  · exact h
  · exact absurd (g2.trans (he.symm.trans g1.symm)) (List.pairwise_iff_getElem.mp h1 j i l2 l1 h)
theorem vD_perm {A : Nat → Prop} {ws ws' : va_W} (hp : ws.Perm ws') (h : va_D A ws) : va_D A ws' := vD_of ((hp.map (fun p => p.1)).nodup_iff.mp (vD_nodup h)) (fun q hq => vD_in h (hp.mem_iff.mpr hq))
theorem vD_left {A : Nat → Prop} {ws ws' : va_W} (h : va_D A (ws ++ ws')) : va_D A ws := by
  have n := vD_nodup h
  rw [List.map_append] at n
  exact vD_of (List.nodup_append.mp n).1 (fun q hq => vD_in h (List.mem_append_left _ hq))
theorem vD_right {A : Nat → Prop} {ws ws' : va_W} (h : va_D A (ws ++ ws')) : va_D A ws' := by
  have n := vD_nodup h
  rw [List.map_append] at n
  exact vD_of (List.nodup_append.mp n).2.1 (fun q hq => vD_in h (List.mem_append_right _ hq))
theorem pm_1 {α : Type} (X T : List α) (q : α) : ((X ++ T) ++ [q]).Perm ((X ++ [q]) ++ T) := by
  rw [List.append_assoc, List.append_assoc]
  exact List.Perm.append_left X List.perm_append_comm
theorem pm_2 {α : Type} (a b c d : α) (T : List α) : ([a, b, c, d] ++ T).Perm ([a, b, d] ++ (T ++ [c])) := by
  refine List.Perm.cons a (List.Perm.cons b ?_)
  exact List.perm_append_comm (l₁ := [c]) (l₂ := d :: T)
theorem pm_3 {α : Type} (a b c : α) (T : List α) : ([a, b, c] ++ T).Perm ([a, b] ++ (T ++ [c])) := by
  refine List.Perm.cons a (List.Perm.cons b ?_)
  exact List.perm_append_comm (l₁ := [c]) (l₂ := T)
theorem pm_4 {α : Type} (P A B N : List α) : ((P ++ A) ++ (B ++ N)).Perm (A ++ (B ++ (P ++ N))) := by
  rw [List.append_assoc]
  refine List.perm_append_comm.trans ?_
  rw [List.append_assoc, List.append_assoc]
  exact List.Perm.append_left A (List.Perm.append_left B List.perm_append_comm)
/-- a contract's end: it returned some v, the world is some w1 -/
def QX (D : va_G) (Wp : va_W → Option Value → Prop) (A : Nat → Prop) : Array Value → State → Outcome → State → Prop := fun _ st o t => ∃ (v : Option Value) (w1 : va_W), o = .returned v ∧ Wp w1 v ∧ va_P D vwCl w1 t.heap ∧ va_D A w1 ∧ va_F A st t
section Gcalls
variable {p : Program} {l : Launch} {e : Env} {R : Room} {s : State} {m : MethodId} {args : Array Value} {below : List Frame} {meth : Method} {c : Code} {H : Heap} {locs : List Loc} {cells slots : Nat} {Q : State → Prop}
variable {pc nL index mc ms n maxL ci : Nat} {ls : Array Slot} {st0 rest As : List Value} {A : Nat → Prop} {D : va_G} {tys : List (ClassId × FieldType)} {ws wc wr : va_W} {Wp : va_W → Option Value → Prop} {y : MethodName} {bytes cc : ByteArray} {ret : Option FieldType} {rm : Room} {own : String} {b : Addr} {fs : List Value} {hh : List (Nat × Nat × Nat × Nat)}
theorem xg_free (hD : va_D A (wc ++ wr)) (hS : va_S A s.heap H locs) (hA : ∀ q, s.heap.size ≤ q → A q) : ∀ q, va_A wc H.size q → A q := by
  intro q h
  rcases h with ⟨k, e, h⟩ | h
  · exact vD_in hD (List.mem_append_left _ (List.mem_of_getElem? h))
  · exact hA q (Nat.le_trans hS.1 h)
theorem xg_join {H1 : Heap} {w1 : va_W} (hP : va_P D vwCl (wc ++ wr) H) (hD : va_D A (wc ++ wr)) (hk : ∀ q : Nat, q < H.size → ¬ va_A wc H.size q → H1[q]? = H[q]?) (hF : ∀ q, va_A wc H.size q → A q) (hP1 : va_P D vwCl w1 H1) (hD1 : va_D (va_A wc H.size) w1) : va_P D vwCl (wr ++ w1) H1 ∧ va_D A (wr ++ w1) := by
  have hP2 := vD_nodup hD
  rw [List.map_append] at hP2
  have hN := List.nodup_append.mp hP2
  have hlt : ∀ q ∈ wr, q.1 < H.size := by
    intro q hq
    have h1 := vP_mem hP (List.mem_append_right _ hq)
    obtain ⟨a, e⟩ := q
    cases e with
    | inl z => exact (Array.getElem?_eq_some_iff.mp (show H[a]? = some _ from h1)).1
    | inr o =>
      obtain ⟨r, -, h2⟩ := h1
      obtain ⟨cell, h3, -⟩ := h2
      exact (Array.getElem?_eq_some_iff.mp h3).1
  have hno : ∀ q ∈ wr, ¬ va_A wc H.size q.1 := by
    intro q hq h
    rcases h with ⟨k, e, h⟩ | h
    · exact hN.2.2 q.1 (List.mem_map.mpr ⟨(q.1, e), List.mem_of_getElem? h, rfl⟩) q.1 (List.mem_map.mpr ⟨q, hq, rfl⟩) rfl
    · exact absurd (hlt q hq) (Nat.not_lt.mpr h)
  refine ⟨vP_app (vP_of (fun q hq => ?_)) hP1, vD_of ?_ ?_⟩
  · have h1 := vP_mem hP (List.mem_append_right _ hq)
    have h2 := hk q.1 (hlt q hq) (hno q hq)
    obtain ⟨a, e⟩ := q
    cases e with
    | inl z => exact (show H1[a]? = some _ from h2.trans h1)
    | inr o =>
      obtain ⟨r, h3, cell, h4, h5⟩ := h1
      exact ⟨r, h3, cell, h2.trans h4, h5⟩
  · rw [List.map_append]
    refine List.nodup_append.mpr ⟨hN.2.1, vD_nodup hD1, ?_⟩
    intro a ha b hb hab
    obtain ⟨q, hq, rfl⟩ := List.mem_map.mp ha
    obtain ⟨r, hr, rfl⟩ := List.mem_map.mp hb
    exact hno q hq (by rw [hab]; exact vD_in hD1 hr)
  · intro q hq
    rcases List.mem_append.mp hq with h | h
    · exact vD_in hD (List.mem_append_right _ h)
    · exact hF _ (vD_in hD1 h)
theorem xg_run {a : Array Value} (hr : va_Run p l e R s m args below meth c H locs cells slots mc ms (F0 m pc ls st0) rest (QX D Wp (va_A wc H.size) a) (va_A wc H.size)) (hP : va_P D vwCl (wc ++ wr) H) (hD : va_D A (wc ++ wr)) (hS : va_S A s.heap H locs) (hF : ∀ q, va_A wc H.size q → A q)
    (kk : ∀ (v : Option Value) (w1 : va_W) (H1 : Heap) (locs1 : List Loc), Wp w1 v → va_P D vwCl (wr ++ w1) H1 → va_D A (wr ++ w1) → va_S A s.heap H1 locs1 → W p l e R s m args below meth c H1 locs1 (cells + mc) (slots + ms) Q (F0 m (pc + 3) ls (v.toList ++ rest))) : W p l e R s m args below meth c H locs cells slots Q (F0 m pc ls st0) := by
  intro T hT X
  obtain ⟨v', st₀, t, T', L, h0, X', hL, e1, e2, ⟨v, w1, hv, hw, hp1, hd1, hFt⟩, st⟩ := hr T hT X
  cases hv
  have hS1 := xc_keep h0 e1 hS hF hL hFt
  obtain ⟨hz, hk⟩ := hFt
  rw [h0] at hz hk
  obtain ⟨j1, j2⟩ := xg_join (wr := wr) (w1 := w1) (H1 := T'.heap) hP hD (fun q h1 h2 => by rw [e1]; exact hk q h1 h2) hF (by rw [e1]; exact hp1) hd1
  obtain ⟨t2, a1, b1⟩ := kk _ w1 T'.heap (locs ++ L) hw j1 j2 hS1 T' rfl X'
  exact ⟨t2, st t2 a1, b1⟩
theorem xg_preS (hK : va_K D vwCl tys s) (hE : EV A s) (hS : va_S A s.heap H locs) (hP : va_P D vwCl (wc ++ wr) H) (hD : va_D A (wc ++ wr)) (hF : ∀ q, va_A wc H.size q → A q) : PreS s H (PC D tys wc H.size As) As :=
  ⟨PC.blind, fun U hU hW => ⟨rfl, by rw [hU], by rw [hU]; exact vP_left hP, va_K.moved hW.alike hK, vD_of (vD_nodup (vD_left hD)) (fun _ _ => trivial), hE.pass hS hF hU hW⟩⟩
theorem xg_V (S : CallFix p m c cc nL s args lw_all own) (hM : Met l y (ws_ y bytes maxL ret) rm (PC D tys wc H.size (.ref b :: As)) (QX D Wp (va_A wc H.size)) mc ms (va_A wc H.size)) (hlk : Cond.methodLink own index y ∈ lw_all) (ok : MOK y bytes maxL ret n) (hP : va_P D vwCl (wc ++ wr) H) (hD : va_D A (wc ++ wr)) (hK : va_K D vwCl tys s) (hE : EV A s) (hS : va_S A s.heap H locs) (hA : ∀ q, s.heap.size ≤ q → A q)
    {r : vw_C} (hc : vwCl[ci]? = some r) (q0 : Nat) (he : (wc ++ wr)[q0]? = some (b, .inr (ci, fs))) (hcl : r.1 = y.cls) (hlen : As.length = n) (hsz : ls.size = nL) (hst : st0 = As.reverse ++ .ref b :: rest) (hrs : (rest.map fun v => v.category).sum ≤ 8) (hrm : rm.cells = mc ∧ rm.slots = ms) (hrf : rm.frames + 1 ≤ R.frames ∧ 8 + (maxL + 11) + rm.locals ≤ R.locals) (hf : cells + mc ≤ R.cells ∧ slots + ms ≤ R.slots) (hdg : decode cc pc = .ok (.invokevirtual index, 3))
    (kk : ∀ (v : Option Value) (w1 : va_W) (H1 : Heap) (locs1 : List Loc), Wp w1 v → va_P D vwCl (wr ++ w1) H1 → va_D A (wr ++ w1) → va_S A s.heap H1 locs1 → W p l e R s m args below meth c H1 locs1 (cells + mc) (slots + ms) Q (F0 m (pc + 3) ls (v.toList ++ rest))) : W p l e R s m args below meth c H locs cells slots Q (F0 m pc ls st0) := by
  obtain ⟨o1, o2, o3, o4, o5⟩ := ok
  have hF := xg_free (wc := wc) (wr := wr) hD hS hA
  subst hst
  have hpv : PreV s H r.1 b (PC D tys wc H.size (.ref b :: As)) As := ⟨PC.blind, va_recv hK hP hc he, (xg_preS (As := .ref b :: As) hK hE hS hP hD hF).2⟩
  rw [hcl] at hpv
  exact xg_run (va_runV (As := As) (rest := rest) S hM (cwV n S.2.2.2.2 (lw_V hlk o1 o2 o3 o4) rfl hrm.1 hrm.2 ⟨rfl, o5⟩ hrf) hpv rfl hlen hsz rfl (lv_room hrs) hdg hf) hP hD hS hF kk
theorem xg_S (S : CallFix p m c cc nL s args lw_all own) (hM : Met l y (ws_ y bytes maxL ret) rm (PC D tys wc H.size As) (QX D Wp (va_A wc H.size)) mc ms (va_A wc H.size)) (hlk : Cond.methodLink own index y ∈ lw_all) (ok : SOK y bytes maxL ret n) (hP : va_P D vwCl (wc ++ wr) H) (hD : va_D A (wc ++ wr)) (hK : va_K D vwCl tys s) (hE : EV A s) (hS : va_S A s.heap H locs) (hA : ∀ q, s.heap.size ≤ q → A q)
    (hlen : As.length = n) (hsz : ls.size = nL) (hst : st0 = As.reverse ++ rest) (hrs : (rest.map fun v => v.category).sum ≤ 8) (hrm : rm.cells = mc ∧ rm.slots = ms) (hrf : rm.frames + 1 ≤ R.frames ∧ 8 + (maxL + 11) + rm.locals ≤ R.locals) (hf : cells + mc ≤ R.cells ∧ slots + ms ≤ R.slots) (hdg : decode cc pc = .ok (.invokestatic index, 3))
    (kk : ∀ (v : Option Value) (w1 : va_W) (H1 : Heap) (locs1 : List Loc), Wp w1 v → va_P D vwCl (wr ++ w1) H1 → va_D A (wr ++ w1) → va_S A s.heap H1 locs1 → W p l e R s m args below meth c H1 locs1 (cells + mc) (slots + ms) Q (F0 m (pc + 3) ls (v.toList ++ rest))) : W p l e R s m args below meth c H locs cells slots Q (F0 m pc ls st0) := by
  obtain ⟨o1, o2, o3, o4⟩ := ok
  have hF := xg_free (wc := wc) (wr := wr) hD hS hA
  subst hst
  exact xg_run (va_runS (As := As) (rest := rest) S hM (va_cwS n S.2.2.2.2 (lw_S hlk o1 o2 o3) rfl hrm.1 hrm.2 o4 hrf) (xg_preS hK hE hS hP hD hF) rfl hlen hsz rfl (lv_room hrs) hdg hf) hP hD hS hF kk
theorem xg_H (S : CallFix p m c cc nL s args lw_all own) (hM : Met l y (wh_ y bytes maxL ret hh) rm (PC D tys wc H.size As) (QX D Wp (va_A wc H.size)) mc ms (va_A wc H.size)) (hlk : Cond.methodLink own index y ∈ lw_all) (ok : HOK y bytes maxL ret hh n) (hP : va_P D vwCl (wc ++ wr) H) (hD : va_D A (wc ++ wr)) (hK : va_K D vwCl tys s) (hE : EV A s) (hS : va_S A s.heap H locs) (hA : ∀ q, s.heap.size ≤ q → A q)
    (hlen : As.length = n) (hsz : ls.size = nL) (hst : st0 = As.reverse ++ rest) (hrs : (rest.map fun v => v.category).sum ≤ 8) (hrm : rm.cells = mc ∧ rm.slots = ms) (hrf : rm.frames + 1 ≤ R.frames ∧ 8 + (maxL + 11) + rm.locals ≤ R.locals) (hf : cells + mc ≤ R.cells ∧ slots + ms ≤ R.slots) (hdg : decode cc pc = .ok (.invokestatic index, 3))
    (kk : ∀ (v : Option Value) (w1 : va_W) (H1 : Heap) (locs1 : List Loc), Wp w1 v → va_P D vwCl (wr ++ w1) H1 → va_D A (wr ++ w1) → va_S A s.heap H1 locs1 → W p l e R s m args below meth c H1 locs1 (cells + mc) (slots + ms) Q (F0 m (pc + 3) ls (v.toList ++ rest))) : W p l e R s m args below meth c H locs cells slots Q (F0 m pc ls st0) := by
  obtain ⟨o1, o2, o3, o4⟩ := ok
  have hF := xg_free (wc := wc) (wr := wr) hD hS hA
  subst hst
  exact xg_run (vx_runSW (As := As) (rest := rest) S hM (vx_cwSW n S.2.2.2.2 (lw_S hlk o1 o2 o3) rfl hrm.1 hrm.2 o4 hrf) (xg_preS hK hE hS hP hD hF) rfl hlen hsz rfl (lv_room hrs) hdg hf) hP hD hS hF kk
theorem xq_l {v : Int64} (hx : p.tables.exec = Jvm.exec) (hb : c.code = cc) (hr : meth.sig.returnType = some .long) (hlocks : meth.locks = false) (hP : va_P D vwCl ws H) (hD : va_D A ws) (hS : va_S A s.heap H locs) (hw : Wp ws (some (.long v))) (hc : cells ≤ mc) (hs : slots ≤ ms) (hdg : decode cc pc = .ok (.lreturn, 1)) : W p l e R s m args below meth c H locs cells slots (MQ below (QX D Wp A) args s mc ms A) (F0 m pc ls [.long v]) :=
  W.widen hc hs (W.lret hx hb hr (fun t ht hW => ⟨_, ws, rfl, hw, by rw [ht]; exact hP, hD, hS.F ht⟩) hS.2.2 hdg hlocks)
theorem xq_i {v : Int32} (hx : p.tables.exec = Jvm.exec) (hb : c.code = cc) (hr : meth.sig.returnType = some .int) (hlocks : meth.locks = false) (hP : va_P D vwCl ws H) (hD : va_D A ws) (hS : va_S A s.heap H locs) (hw : Wp ws (some (.int v))) (hc : cells ≤ mc) (hs : slots ≤ ms) (hdg : decode cc pc = .ok (.ireturn, 1)) : W p l e R s m args below meth c H locs cells slots (MQ below (QX D Wp A) args s mc ms A) (F0 m pc ls [.int v]) :=
  W.widen hc hs (W.iret hx hb hr (fun t ht hW => ⟨_, ws, rfl, hw, by rw [ht]; exact hP, hD, hS.F ht⟩) hS.2.2 hdg hlocks)
theorem xq_v (hx : p.tables.exec = Jvm.exec) (hb : c.code = cc) (hr : meth.sig.returnType = none) (hlocks : meth.locks = false) (hP : va_P D vwCl ws H) (hD : va_D A ws) (hS : va_S A s.heap H locs) (hw : Wp ws none) (hc : cells ≤ mc) (hs : slots ≤ ms) (hdg : decode cc pc = .ok (.return_, 1)) : W p l e R s m args below meth c H locs cells slots (MQ below (QX D Wp A) args s mc ms A) (F0 m pc ls []) :=
  W.widen hc hs (W.vret hx hb hr (fun t ht hW => ⟨_, ws, rfl, hw, by rw [ht]; exact hP, hD, hS.F ht⟩) hS.2.2 hdg hlocks)
end Gcalls
