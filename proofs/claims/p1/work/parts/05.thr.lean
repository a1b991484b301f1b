/-! 'throw new E("text")' of the class, in the form of these contracts -/
abbrev nms : List String := ["java/lang/RuntimeException", "java/lang/Exception"]
def TOK (cls : String) (ic : Nat) : Prop := (∀ w ∈ (vx_atS RX3 ic cls nms).filter goodWord, w ∈ lw_tbl) ∧ (∀ w ∈ (vx_atS RX3 ic cls nms).filter (fun w => !goodWord w), w ∈ [Cond.castable cls cls, Cond.declares dRT, Cond.declares dEX, Cond.declares dTH]) ∧ Bundle.fit cls = true ∧ (∀ n ∈ nms, Bundle.fit n = true) ∧ (∀ w ∈ vx_atS RX3 ic cls nms, vx_ot w = true)
theorem tok_IAE : TOK nIAE 40 := ⟨by decide +kernel, by decide +kernel, by decide +kernel, by decide +kernel, by decide +kernel⟩
theorem tok_ISE : TOK nISE 53 := ⟨by decide +kernel, by decide +kernel, by decide +kernel, by decide +kernel, by decide +kernel⟩
theorem tok_IOB : TOK nIOB 131 := ⟨by decide +kernel, by decide +kernel, by decide +kernel, by decide +kernel, by decide +kernel⟩
section Xthrow
variable {p : Program} {l : Launch} {e : Env} {R : Room} {s : State} {m : MethodId} {args : Array Value} {below : List Frame} {meth : Method} {c : Code} {H : Heap} {locs : List Loc} {cells slots : Nat}
theorem xx_throw {cls text : String} {ik is ic pc mc ms : Nat} {ls : Array Slot} {rest : List Value} {A : Nat → Prop} {cc : ByteArray} (hx : p.tables.exec = Jvm.exec) (hb : c.code = cc) (hfl : l.stackTraces = false) (hown : s.vm.findClass RX3 = some m.cls) (hts : ∀ w ∈ lw_all, w.before args s = true) (tok : TOK cls ic) (h1 : Cond.classLink RX3 ik cls ∈ lw_all) (h2 : Cond.initialized cls ∈ lw_all) (hca : va_Nw (.castable cls cls) s) (hst : ∃ sa, vk_R RX3 is text sa s) (hE : EV A s) (hS : va_S A s.heap H locs) (hsz : ls.size = c.maxLocals) (hno : ∀ x ∈ c.exceptionTable.toList, False) (hlocks : meth.locks = false)
    (d0 : decode cc pc = .ok (.new ik, 3)) (d3 : decode cc (pc + 3) = .ok (.dup, 1)) (d4 : decode cc (pc + 4) = .ok (.ldc is, 2)) (d6 : decode cc (pc + 6) = .ok (.invokespecial ic, 3)) (d9 : decode cc (pc + 9) = .ok (.athrow, 1))
    (hRf : 5 < R.frames) (hRl : (rest.map fun v => v.category).sum + 82 ≤ R.locals) (hRc : cells + 1 ≤ R.cells) (hRs : slots + 6 ≤ R.slots) (hc : cells + 1 ≤ mc) (hs : slots + 6 ≤ ms) :
    W p l e R s m args below meth c H locs cells slots (vx_MQ below QN (XR cls A) args s mc ms A) (F0 m pc ls rest) := by
  obtain ⟨t1, t2, t3, t4, t5⟩ := tok
  obtain ⟨sa, hsa⟩ := hst
  have hat : ∀ w ∈ vx_atS RX3 ic cls nms, w.before args s = true := vx_hat (B := [Cond.castable cls cls, Cond.declares dRT, Cond.declares dEX, Cond.declares dTH]) (fun w hw => hts w (lw_in (t1 w hw) (List.mem_filter.mp hw).2)) t2 (vx_c (hca.use rfl) (vx_c (hE.2.2.1.1.use rfl) (vx_c (hE.2.2.1.2.1.use rfl) (vx_c (hE.2.2.1.2.2.use rfl) vx_n))))
  have hg1 : vx_ot (Cond.classLink RX3 ik cls) = true := rfl
  have hg2 : vx_ot (Cond.initialized cls) = true := rfl
  refine vx_throwS (own := RX3) (cls := cls) (text := text) (names := nms) (ik := ik) (is := is) (ic := ic) (sa := sa) (A := A) hx hb hfl hown t3 t4 (hts _ h1) (hts _ h2) hsa hat ?_ hE.1 hE.2.1 hS hsz d0 d3 d4 d6 d9 (fun x hx => (hno x hx).elim) hRf hRl hRc hRs hlocks ?_ hS.2.2 hc hs
  · intro w hw
    rcases List.mem_cons.mp hw with rfl | hw
    · exact hg1
    · rcases List.mem_cons.mp hw with rfl | hw
      · exact hg2
      · exact t5 w hw
  · intro t _ hz hk
    exact ⟨rfl, Nat.le_trans hS.1 hz, fun q h1 h2 => by rw [hk q (Nat.lt_of_lt_of_le h1 hS.1)]; exact hS.2.1 q h1 h2⟩
end Xthrow
