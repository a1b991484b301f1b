set_option maxHeartbeats 4000000 in
set_option maxRecDepth 100000 in
theorem cw_fill (l : Launch) (hfl : l.stackTraces = false) (dC : Nat → ClassId) (dI : Nat → Nat → Nat) (cI cZ cJ cD : ClassId) (a0 : Nat) (f : Nat → Int64) (sz : Nat) : Met l yJ7_fill_d0a16 (ws_ yJ7_fill_d0a16 cJ7_fill_d0a16 5 none) (rm_ 1 0 0) (PC (dC, dI) (tyL cI cZ cJ cD) [(a0, .inl (cJ, 250, .inr (.inl f)))] sz [.ref a0, .long 1]) (QX (dC, dI) (fun w v => v = none ∧ ∃ f1 : Nat → Int64, w = [(a0, .inl (cJ, 250, .inr (.inl f1)))]) (va_A [(a0, .inl (cJ, 250, .inr (.inl f)))] sz)) 0 0 (va_A [(a0, .inl (cJ, 250, .inr (.inl f)))] sz) := by
  refine xm_of (QQ := QX (dC, dI) (fun w v => v = none ∧ ∃ f1 : Nat → Int64, w = [(a0, .inl (cJ, 250, .inr (.inl f1)))])) (by decide +kernel) (Nat.le_of_ble_eq_true rfl) ?_
  intro p e s m below meth c A ls hx hb hr hml hown hts hlocks hin hK hP hD hE hA hS hl
  have hl : lv_has ls 5 [(0, .ref a0), (1, .long 1)] := hl
  have key : ∀ (n i : Nat), i + n = 250 → ∀ (f : Nat → Int64) (H : Heap) (locs : List Loc) (ls : Array Slot), va_P (dC, dI) vwCl [(a0, .inl (cJ, 250, .inr (.inl f)))] H → va_D A [(a0, .inl (cJ, 250, .inr (.inl f)))] → va_S A s.heap H locs → lv_has ls 5 [(3, .int (nI i)), (4, .int 250), (0, .ref a0), (1, .long 1)] → W p l e (rm_ 1 0 0) s m [.ref a0, .long 1].toArray below meth c H locs 0 0 (MQ below (QX (dC, dI) (fun w v => v = none ∧ ∃ f1 : Nat → Int64, w = [(a0, .inl (cJ, 250, .inr (.inl f1)))]) A) [.ref a0, .long 1].toArray s 0 0 A) (F0 m 6 ls []) := by
    intro n
    induction n with
    | zero =>
      intro i hi f H locs ls hP hD hS hl
      have hi : i = 250 := by omega
      subst hi
      refine lv_iload_n hx hb dJ7_fill_d0a16_6 rfl (lv_at hl 0 rfl) ?_
      refine lv_iload hx hb dJ7_fill_d0a16_7 (lv_at hl 1 rfl) ?_
      refine lv_icmp_ge (tgt := 22) hx hb dJ7_fill_d0a16_9 (by decide) (fun _ => ?_) (fun h9 => absurd (by decide) h9)
      exact xq_v hx hb hr hlocks hP hD hS ⟨rfl, _, rfl⟩ (Nat.le_of_ble_eq_true rfl) (Nat.le_of_ble_eq_true rfl) dJ7_fill_d0a16_22
    | succ n ih =>
      intro i hi f H locs ls hP hD hS hl
      refine lv_iload_n hx hb dJ7_fill_d0a16_6 rfl (lv_at hl 0 rfl) ?_
      refine lv_iload hx hb dJ7_fill_d0a16_7 (lv_at hl 1 rfl) ?_
      refine lv_icmp_ge (tgt := 22) hx hb dJ7_fill_d0a16_9 (by decide) (fun h9 => absurd h9 (nI_ge (a := i) (b := 250) (by omega) (by decide))) (fun _ => ?_)
      refine lv_aload_n hx hb dJ7_fill_d0a16_12 rfl (lv_at hl 2 rfl) ?_
      refine lv_iload_n hx hb dJ7_fill_d0a16_13 rfl (lv_at hl 0 rfl) ?_
      refine lv_lload_n hx hb dJ7_fill_d0a16_14 rfl (lv_at hl 3 rfl) ?_
      refine xa_last (k := i) (w1 := [(a0, .inl (cJ, 250, .inr (.inl (vp_updL f i 1))))]) hx hb hK hP hD hS 0 2 rfl rfl (nI_pos (by omega)) (nI_clamp (by omega)) (by omega) rfl dJ7_fill_d0a16_15 (fun H locs hP hD hS => ?_)
      refine lv_iinc (v := nI (i + 1)) (lv' := [(3, .int (nI (i + 1))), (4, .int 250), (0, .ref a0), (1, .long 1)]) hx hb dJ7_fill_d0a16_16 hl (k := 0) rfl (nI_1 i) (by decide) rfl (fun ls hl => ?_)
      refine lv_goto (tgt := 6) hx hb dJ7_fill_d0a16_19 (by decide) ?_
      exact ih (i + 1) (by omega) _ H locs ls hP hD hS hl
  refine lv_iconst (v := 0) hx hb dJ7_fill_d0a16_0 (by decide) ?_
  refine lv_istore_n (lv' := [(3, .int 0), (0, .ref a0), (1, .long 1)]) hx hb dJ7_fill_d0a16_1 rfl hl (by decide) rfl (fun ls hl => ?_)
  refine lv_aload_n hx hb dJ7_fill_d0a16_2 rfl (lv_at hl 1 rfl) ?_
  refine va_alen (v := 250) hx hb hK hP 0 2 rfl rfl (show Int32.ofNat 250 = 250 by decide +kernel) dJ7_fill_d0a16_3 ?_
  refine lv_istore (lv' := [(4, .int 250), (3, .int 0), (0, .ref a0), (1, .long 1)]) hx hb dJ7_fill_d0a16_4 hl (by decide) rfl (fun ls hl => ?_)
  exact key 250 0 rfl f s.heap [] ls hP hD hS (lv_sub hl [1, 0, 2, 3] rfl)
set_option maxHeartbeats 4000000 in
set_option maxRecDepth 100000 in
theorem cw_count (l : Launch) (hfl : l.stackTraces = false) (dC : Nat → ClassId) (dI : Nat → Nat → Nat) (cI cZ cJ cD : ClassId) (ag k1 k2 k3 k4 st li wn wb k5 : Nat) (f g : Nat → Int64) (sz : Nat) : Met l yX0_countWays (ws_ yX0_countWays cX0_countWays 7 (some .long)) (rm_ 2 0 0) (PC (dC, dI) (tyL cI cZ cJ cD) [(ag, .inr (0, [.int 2, .int 1, .int 1, .ref k1, .ref k2, .ref k3, .ref k4, .ref st, .ref li, .int 1, .ref wn, .ref wb, .ref k5])), (st, .inl (cI, 251, .inl (upd (upd (upd (fun _ => 0) 0 0) 1 1) 2 1))), (li, .inl (cI, 1024, .inl (upd (fun _ => 0) 0 1))), (wb, .inl (cJ, 250, .inr (.inl g))), (wn, .inl (cJ, 250, .inr (.inl f)))] sz [.ref ag, .int 100]) (QX (dC, dI) (fun w v => ∃ (z : Int64) (f1 g1 : Nat → Int64), v = some (.long z) ∧ w = [(ag, .inr (0, [.int 2, .int 1, .int 1, .ref k1, .ref k2, .ref k3, .ref k4, .ref st, .ref li, .int 1, .ref wn, .ref wb, .ref k5])), (st, .inl (cI, 251, .inl (upd (upd (upd (fun _ => 0) 0 0) 1 1) 2 1))), (li, .inl (cI, 1024, .inl (upd (fun _ => 0) 0 1))), (wb, .inl (cJ, 250, .inr (.inl g1))), (wn, .inl (cJ, 250, .inr (.inl f1)))]) (va_A [(ag, .inr (0, [.int 2, .int 1, .int 1, .ref k1, .ref k2, .ref k3, .ref k4, .ref st, .ref li, .int 1, .ref wn, .ref wb, .ref k5])), (st, .inl (cI, 251, .inl (upd (upd (upd (fun _ => 0) 0 0) 1 1) 2 1))), (li, .inl (cI, 1024, .inl (upd (fun _ => 0) 0 1))), (wb, .inl (cJ, 250, .inr (.inl g))), (wn, .inl (cJ, 250, .inr (.inl f)))] sz)) 0 0 (va_A [(ag, .inr (0, [.int 2, .int 1, .int 1, .ref k1, .ref k2, .ref k3, .ref k4, .ref st, .ref li, .int 1, .ref wn, .ref wb, .ref k5])), (st, .inl (cI, 251, .inl (upd (upd (upd (fun _ => 0) 0 0) 1 1) 2 1))), (li, .inl (cI, 1024, .inl (upd (fun _ => 0) 0 1))), (wb, .inl (cJ, 250, .inr (.inl g))), (wn, .inl (cJ, 250, .inr (.inl f)))] sz) := by
  refine xm_of (QQ := QX (dC, dI) (fun w v => ∃ (z : Int64) (f1 g1 : Nat → Int64), v = some (.long z) ∧ w = [(ag, .inr (0, [.int 2, .int 1, .int 1, .ref k1, .ref k2, .ref k3, .ref k4, .ref st, .ref li, .int 1, .ref wn, .ref wb, .ref k5])), (st, .inl (cI, 251, .inl (upd (upd (upd (fun _ => 0) 0 0) 1 1) 2 1))), (li, .inl (cI, 1024, .inl (upd (fun _ => 0) 0 1))), (wb, .inl (cJ, 250, .inr (.inl g1))), (wn, .inl (cJ, 250, .inr (.inl f1)))])) (by decide +kernel) (Nat.le_of_ble_eq_true rfl) ?_
  intro p e s m below meth c A ls hx hb hr hml hown hts hlocks hin hK hP hD hE hA hS hl
  have hown : s.vm.findClass RX0 = some m.cls := hown
  have hl : lv_has ls 7 [(0, .ref ag), (1, .int 100)] := hl
  have key : ∀ (n i : Nat), i + n = 100 → ∀ (f g : Nat → Int64) (H : Heap) (locs : List Loc) (ls : Array Slot), va_P (dC, dI) vwCl [(ag, .inr (0, [.int 2, .int 1, .int 1, .ref k1, .ref k2, .ref k3, .ref k4, .ref st, .ref li, .int 1, .ref wn, .ref wb, .ref k5])), (st, .inl (cI, 251, .inl (upd (upd (upd (fun _ => 0) 0 0) 1 1) 2 1))), (li, .inl (cI, 1024, .inl (upd (fun _ => 0) 0 1))), (wb, .inl (cJ, 250, .inr (.inl g))), (wn, .inl (cJ, 250, .inr (.inl f)))] H → va_D A [(ag, .inr (0, [.int 2, .int 1, .int 1, .ref k1, .ref k2, .ref k3, .ref k4, .ref st, .ref li, .int 1, .ref wn, .ref wb, .ref k5])), (st, .inl (cI, 251, .inl (upd (upd (upd (fun _ => 0) 0 0) 1 1) 2 1))), (li, .inl (cI, 1024, .inl (upd (fun _ => 0) 0 1))), (wb, .inl (cJ, 250, .inr (.inl g))), (wn, .inl (cJ, 250, .inr (.inl f)))] → va_S A s.heap H locs → lv_has ls 7 [(2, .int (nI i)), (0, .ref ag), (1, .int 100)] → W p l e (rm_ 2 0 0) s m [.ref ag, .int 100].toArray below meth c H locs 0 0 (MQ below (QX (dC, dI) (fun w v => ∃ (z : Int64) (f1 g1 : Nat → Int64), v = some (.long z) ∧ w = [(ag, .inr (0, [.int 2, .int 1, .int 1, .ref k1, .ref k2, .ref k3, .ref k4, .ref st, .ref li, .int 1, .ref wn, .ref wb, .ref k5])), (st, .inl (cI, 251, .inl (upd (upd (upd (fun _ => 0) 0 0) 1 1) 2 1))), (li, .inl (cI, 1024, .inl (upd (fun _ => 0) 0 1))), (wb, .inl (cJ, 250, .inr (.inl g1))), (wn, .inl (cJ, 250, .inr (.inl f1)))]) A) [.ref ag, .int 100].toArray s 0 0 A) (F0 m 10 ls []) := by
    intro n
    induction n with
    | zero =>
      intro i hi f g H locs ls hP hD hS hl
      have hi : i = 100 := by omega
      subst hi
      refine lv_iload_n hx hb dX0_countWays_10 rfl (lv_at hl 0 rfl) ?_
      refine lv_iload_n hx hb dX0_countWays_11 rfl (lv_at hl 2 rfl) ?_
      refine lv_icmp_ge (tgt := 109) hx hb dX0_countWays_12 (by decide) (fun _ => ?_) (fun h9 => absurd (by decide) h9)
      refine lv_lconst (v := 0) hx hb dX0_countWays_109 (by decide) ?_
      refine lv_lstore_n (lv' := [(2, .long 0), (0, .ref ag), (1, .int 100)]) hx hb dX0_countWays_110 rfl hl (by decide) rfl (fun ls hl => ?_)
      refine lv_iconst (v := 0) hx hb dX0_countWays_111 (by decide) ?_
      refine lv_istore (lv' := [(4, .int 0), (2, .long 0), (0, .ref ag), (1, .int 100)]) hx hb dX0_countWays_112 hl (by decide) rfl (fun ls hl => ?_)
      refine lv_iload hx hb dX0_countWays_114 (lv_at hl 0 rfl) ?_
      refine lv_aload_n hx hb dX0_countWays_116 rfl (lv_at hl 2 rfl) ?_
      refine va_get (D := (dC, dI)) (ci := 0) (v := .int 1) (C := RX0) (T := TX0) (N := 13) hx hb hts inX0 hown hK hP 0 rfl rfl 1 (by decide) (hts _ q93) (fun _ h9 => h9) rfl dX0_countWays_117 ?_
      refine lv_icmp_ge (tgt := 139) hx hb dX0_countWays_120 (by decide) (fun h9 => absurd h9 (by decide)) (fun _ => ?_)
      refine lv_lload_n hx hb dX0_countWays_123 rfl (lv_at hl 1 rfl) ?_
      refine lv_aload_n hx hb dX0_countWays_124 rfl (lv_at hl 2 rfl) ?_
      refine va_get (D := (dC, dI)) (ci := 0) (v := .ref wn) (C := RX0) (T := TX0) (N := 13) hx hb hts inX0 hown hK hP 0 rfl rfl 10 (by decide) (hts _ q113) (fun _ h9 => h9) rfl dX0_countWays_125 ?_
      refine lv_iload hx hb dX0_countWays_128 (lv_at hl 0 rfl) ?_
      refine xa_lald (k := 0) (v := (f 0)) hx hb hK hP 4 2 rfl rfl (by decide) (by decide +kernel) (Nat.le_of_ble_eq_true rfl) rfl dX0_countWays_130 ?_
      refine lv_ladd hx hb dX0_countWays_131 ?_
      refine lv_lstore_n (lv' := [(2, .long ((0 : Int64) + (f 0))), (4, .int 0), (0, .ref ag), (1, .int 100)]) hx hb dX0_countWays_132 rfl hl (by decide) rfl (fun ls hl => ?_)
      refine lv_iinc (v := 1) (lv' := [(4, .int 1), (2, .long ((0 : Int64) + (f 0))), (0, .ref ag), (1, .int 100)]) hx hb dX0_countWays_133 hl (k := 1) rfl (by decide +kernel) (by decide) rfl (fun ls hl => ?_)
      refine lv_goto (tgt := 114) hx hb dX0_countWays_136 (by decide) ?_
      refine lv_iload hx hb dX0_countWays_114 (lv_at hl 0 rfl) ?_
      refine lv_aload_n hx hb dX0_countWays_116 rfl (lv_at hl 2 rfl) ?_
      refine va_get (D := (dC, dI)) (ci := 0) (v := .int 1) (C := RX0) (T := TX0) (N := 13) hx hb hts inX0 hown hK hP 0 rfl rfl 1 (by decide) (hts _ q93) (fun _ h9 => h9) rfl dX0_countWays_117 ?_
      refine lv_icmp_ge (tgt := 139) hx hb dX0_countWays_120 (by decide) (fun _ => ?_) (fun h9 => absurd (by decide) h9)
      refine lv_lload_n hx hb dX0_countWays_139 rfl (lv_at hl 1 rfl) ?_
      exact xq_l hx hb hr hlocks hP hD hS ⟨_, _, _, rfl, rfl⟩ (Nat.le_of_ble_eq_true rfl) (Nat.le_of_ble_eq_true rfl) dX0_countWays_140
    | succ n ih =>
      intro i hi f g H locs ls hP hD hS hl
      refine lv_iload_n hx hb dX0_countWays_10 rfl (lv_at hl 0 rfl) ?_
      refine lv_iload_n hx hb dX0_countWays_11 rfl (lv_at hl 2 rfl) ?_
      refine lv_icmp_ge (tgt := 109) hx hb dX0_countWays_12 (by decide) (fun h9 => absurd h9 (nI_ge (a := i) (b := 100) (by omega) (by decide))) (fun _ => ?_)
      refine lv_aload_n hx hb dX0_countWays_15 rfl (lv_at hl 1 rfl) ?_
      refine va_get (D := (dC, dI)) (ci := 0) (v := .ref wn) (C := RX0) (T := TX0) (N := 13) hx hb hts inX0 hown hK hP 0 rfl rfl 10 (by decide) (hts _ q113) (fun _ h9 => h9) rfl dX0_countWays_16 ?_
      refine lv_iconst (v := 0) hx hb dX0_countWays_19 (by decide) ?_
      refine lv_aload_n hx hb dX0_countWays_20 rfl (lv_at hl 1 rfl) ?_
      refine va_get (D := (dC, dI)) (ci := 0) (v := .ref wb) (C := RX0) (T := TX0) (N := 13) hx hb hts inX0 hown hK hP 0 rfl rfl 11 (by decide) (hts _ q114) (fun _ h9 => h9) rfl dX0_countWays_21 ?_
      refine lv_iconst (v := 0) hx hb dX0_countWays_24 (by decide) ?_
      refine lv_aload_n hx hb dX0_countWays_25 rfl (lv_at hl 1 rfl) ?_
      refine va_get (D := (dC, dI)) (ci := 0) (v := .int 2) (C := RX0) (T := TX0) (N := 13) hx hb hts inX0 hown hK hP 0 rfl rfl 0 (by decide) (hts _ q90) (fun _ h9 => h9) rfl dX0_countWays_26 ?_
      refine va_copyl hx hb (hml.trans hl.1.symm) hown (hts _ q672) (hts _ q354) (hts _ q353) (hts _ q15) hK hP hD hS 4 3 2 2 rfl rfl rfl rfl rfl (by decide) (by decide) (by decide) (by decide +kernel) (by decide +kernel) (fun _ _ => rfl) (by decide) (by decide +kernel) dX0_countWays_29 (fun H locs hP hD hS => ?_)
      obtain ⟨g, hP, hD⟩ : ∃ g : Nat → Int64, va_P (dC, dI) vwCl [(ag, .inr (0, [.int 2, .int 1, .int 1, .ref k1, .ref k2, .ref k3, .ref k4, .ref st, .ref li, .int 1, .ref wn, .ref wb, .ref k5])), (st, .inl (cI, 251, .inl (upd (upd (upd (fun _ => 0) 0 0) 1 1) 2 1))), (li, .inl (cI, 1024, .inl (upd (fun _ => 0) 0 1))), (wb, .inl (cJ, 250, .inr (.inl g))), (wn, .inl (cJ, 250, .inr (.inl f)))] H ∧ va_D A [(ag, .inr (0, [.int 2, .int 1, .int 1, .ref k1, .ref k2, .ref k3, .ref k4, .ref st, .ref li, .int 1, .ref wn, .ref wb, .ref k5])), (st, .inl (cI, 251, .inl (upd (upd (upd (fun _ => 0) 0 0) 1 1) 2 1))), (li, .inl (cI, 1024, .inl (upd (fun _ => 0) 0 1))), (wb, .inl (cJ, 250, .inr (.inl g))), (wn, .inl (cJ, 250, .inr (.inl f)))] := ⟨_, hP, hD⟩
      refine W.eq (g2 := F0 m 32 ls []) rfl ?_
      refine lv_iconst (v := 0) hx hb dX0_countWays_32 (by decide) ?_
      refine lv_istore_n (lv' := [(3, .int 0), (2, .int (nI i)), (0, .ref ag), (1, .int 100)]) hx hb dX0_countWays_33 rfl hl (by decide) rfl (fun ls hl => ?_)
      refine lv_iload_n hx hb dX0_countWays_34 rfl (lv_at hl 0 rfl) ?_
      refine lv_aload_n hx hb dX0_countWays_35 rfl (lv_at hl 2 rfl) ?_
      refine va_get (D := (dC, dI)) (ci := 0) (v := .int 2) (C := RX0) (T := TX0) (N := 13) hx hb hts inX0 hown hK hP 0 rfl rfl 0 (by decide) (hts _ q90) (fun _ h9 => h9) rfl dX0_countWays_36 ?_
      refine lv_icmp_ge (tgt := 103) hx hb dX0_countWays_39 (by decide) (fun h9 => absurd h9 (by decide)) (fun _ => ?_)
      refine lv_lconst (v := 0) hx hb dX0_countWays_42 (by decide) ?_
      refine lv_lstore (lv' := [(4, .long 0), (3, .int 0), (2, .int (nI i)), (0, .ref ag), (1, .int 100)]) hx hb dX0_countWays_43 hl (by decide) rfl (fun ls hl => ?_)
      refine lv_aload_n hx hb dX0_countWays_45 rfl (lv_at hl 3 rfl) ?_
      refine va_get (D := (dC, dI)) (ci := 0) (v := .ref st) (C := RX0) (T := TX0) (N := 13) hx hb hts inX0 hown hK hP 0 rfl rfl 7 (by decide) (hts _ q108) (fun _ h9 => h9) rfl dX0_countWays_46 ?_
      refine lv_iload_n hx hb dX0_countWays_49 rfl (lv_at hl 1 rfl) ?_
      refine xa_iald (k := 0) (v := 0) hx hb hK hP 1 0 rfl rfl (by decide) (by decide +kernel) (Nat.le_of_ble_eq_true rfl) rfl dX0_countWays_50 ?_
      refine lv_istore (lv' := [(6, .int 0), (4, .long 0), (3, .int 0), (2, .int (nI i)), (0, .ref ag), (1, .int 100)]) hx hb dX0_countWays_51 hl (by decide) rfl (fun ls hl => ?_)
      refine lv_iload hx hb dX0_countWays_53 (lv_at hl 0 rfl) ?_
      refine lv_aload_n hx hb dX0_countWays_55 rfl (lv_at hl 4 rfl) ?_
      refine va_get (D := (dC, dI)) (ci := 0) (v := .ref st) (C := RX0) (T := TX0) (N := 13) hx hb hts inX0 hown hK hP 0 rfl rfl 7 (by decide) (hts _ q108) (fun _ h9 => h9) rfl dX0_countWays_56 ?_
      refine lv_iload_n hx hb dX0_countWays_59 rfl (lv_at hl 2 rfl) ?_
      refine lv_iconst (v := 1) hx hb dX0_countWays_60 (by decide) ?_
      refine lv_iadd hx hb dX0_countWays_61 ?_
      refine tI (v := 1) (by decide +kernel) ?_
      refine xa_iald (k := 1) (v := 1) hx hb hK hP 1 0 rfl rfl (by decide) (by decide +kernel) (Nat.le_of_ble_eq_true rfl) rfl dX0_countWays_62 ?_
      refine lv_icmp_ge (tgt := 89) hx hb dX0_countWays_63 (by decide) (fun h9 => absurd h9 (by decide)) (fun _ => ?_)
      refine lv_lload hx hb dX0_countWays_66 (lv_at hl 1 rfl) ?_
      refine lv_aload_n hx hb dX0_countWays_68 rfl (lv_at hl 4 rfl) ?_
      refine va_get (D := (dC, dI)) (ci := 0) (v := .ref wb) (C := RX0) (T := TX0) (N := 13) hx hb hts inX0 hown hK hP 0 rfl rfl 11 (by decide) (hts _ q114) (fun _ h9 => h9) rfl dX0_countWays_69 ?_
      refine lv_aload_n hx hb dX0_countWays_72 rfl (lv_at hl 4 rfl) ?_
      refine va_get (D := (dC, dI)) (ci := 0) (v := .ref li) (C := RX0) (T := TX0) (N := 13) hx hb hts inX0 hown hK hP 0 rfl rfl 8 (by decide) (hts _ q110) (fun _ h9 => h9) rfl dX0_countWays_73 ?_
      refine lv_iload hx hb dX0_countWays_76 (lv_at hl 0 rfl) ?_
      refine xa_iald (k := 0) (v := 1) hx hb hK hP 2 0 rfl rfl (by decide) (by decide +kernel) (Nat.le_of_ble_eq_true rfl) rfl dX0_countWays_78 ?_
      refine xa_lald (k := 1) (v := (g 1)) hx hb hK hP 3 2 rfl rfl (by decide) (by decide +kernel) (Nat.le_of_ble_eq_true rfl) rfl dX0_countWays_79 ?_
      refine lv_ladd hx hb dX0_countWays_80 ?_
      refine lv_lstore (lv' := [(4, .long ((0 : Int64) + (g 1))), (6, .int 0), (3, .int 0), (2, .int (nI i)), (0, .ref ag), (1, .int 100)]) hx hb dX0_countWays_81 hl (by decide) rfl (fun ls hl => ?_)
      refine lv_iinc (v := 1) (lv' := [(6, .int 1), (4, .long ((0 : Int64) + (g 1))), (3, .int 0), (2, .int (nI i)), (0, .ref ag), (1, .int 100)]) hx hb dX0_countWays_83 hl (k := 1) rfl (by decide +kernel) (by decide) rfl (fun ls hl => ?_)
      refine lv_goto (tgt := 53) hx hb dX0_countWays_86 (by decide) ?_
      refine lv_iload hx hb dX0_countWays_53 (lv_at hl 0 rfl) ?_
      refine lv_aload_n hx hb dX0_countWays_55 rfl (lv_at hl 4 rfl) ?_
      refine va_get (D := (dC, dI)) (ci := 0) (v := .ref st) (C := RX0) (T := TX0) (N := 13) hx hb hts inX0 hown hK hP 0 rfl rfl 7 (by decide) (hts _ q108) (fun _ h9 => h9) rfl dX0_countWays_56 ?_
      refine lv_iload_n hx hb dX0_countWays_59 rfl (lv_at hl 2 rfl) ?_
      refine lv_iconst (v := 1) hx hb dX0_countWays_60 (by decide) ?_
      refine lv_iadd hx hb dX0_countWays_61 ?_
      refine tI (v := 1) (by decide +kernel) ?_
      refine xa_iald (k := 1) (v := 1) hx hb hK hP 1 0 rfl rfl (by decide) (by decide +kernel) (Nat.le_of_ble_eq_true rfl) rfl dX0_countWays_62 ?_
      refine lv_icmp_ge (tgt := 89) hx hb dX0_countWays_63 (by decide) (fun _ => ?_) (fun h9 => absurd (by decide) h9)
      refine lv_aload_n hx hb dX0_countWays_89 rfl (lv_at hl 4 rfl) ?_
      refine va_get (D := (dC, dI)) (ci := 0) (v := .ref wn) (C := RX0) (T := TX0) (N := 13) hx hb hts inX0 hown hK hP 0 rfl rfl 10 (by decide) (hts _ q113) (fun _ h9 => h9) rfl dX0_countWays_90 ?_
      refine lv_iload_n hx hb dX0_countWays_93 rfl (lv_at hl 2 rfl) ?_
      refine lv_lload hx hb dX0_countWays_94 (lv_at hl 1 rfl) ?_
      refine xa_last (k := 0) (w1 := [(ag, .inr (0, [.int 2, .int 1, .int 1, .ref k1, .ref k2, .ref k3, .ref k4, .ref st, .ref li, .int 1, .ref wn, .ref wb, .ref k5])), (st, .inl (cI, 251, .inl (upd (upd (upd (fun _ => 0) 0 0) 1 1) 2 1))), (li, .inl (cI, 1024, .inl (upd (fun _ => 0) 0 1))), (wb, .inl (cJ, 250, .inr (.inl g))), (wn, .inl (cJ, 250, .inr (.inl (vp_updL f 0 ((0 : Int64) + (g 1))))))]) hx hb hK hP hD hS 4 2 rfl rfl (by decide) (by decide +kernel) (Nat.le_of_ble_eq_true rfl) rfl dX0_countWays_96 (fun H locs hP hD hS => ?_)
      refine lv_iinc (v := 1) (lv' := [(3, .int 1), (6, .int 1), (4, .long ((0 : Int64) + (g 1))), (2, .int (nI i)), (0, .ref ag), (1, .int 100)]) hx hb dX0_countWays_97 hl (k := 2) rfl (by decide +kernel) (by decide) rfl (fun ls hl => ?_)
      refine lv_goto (tgt := 34) hx hb dX0_countWays_100 (by decide) ?_
      refine lv_iload_n hx hb dX0_countWays_34 rfl (lv_at hl 0 rfl) ?_
      refine lv_aload_n hx hb dX0_countWays_35 rfl (lv_at hl 4 rfl) ?_
      refine va_get (D := (dC, dI)) (ci := 0) (v := .int 2) (C := RX0) (T := TX0) (N := 13) hx hb hts inX0 hown hK hP 0 rfl rfl 0 (by decide) (hts _ q90) (fun _ h9 => h9) rfl dX0_countWays_36 ?_
      refine lv_icmp_ge (tgt := 103) hx hb dX0_countWays_39 (by decide) (fun h9 => absurd h9 (by decide)) (fun _ => ?_)
      refine lv_lconst (v := 0) hx hb dX0_countWays_42 (by decide) ?_
      refine lv_lstore (lv' := [(4, .long 0), (3, .int 1), (6, .int 1), (2, .int (nI i)), (0, .ref ag), (1, .int 100)]) hx hb dX0_countWays_43 hl (by decide) rfl (fun ls hl => ?_)
      refine lv_aload_n hx hb dX0_countWays_45 rfl (lv_at hl 4 rfl) ?_
      refine va_get (D := (dC, dI)) (ci := 0) (v := .ref st) (C := RX0) (T := TX0) (N := 13) hx hb hts inX0 hown hK hP 0 rfl rfl 7 (by decide) (hts _ q108) (fun _ h9 => h9) rfl dX0_countWays_46 ?_
      refine lv_iload_n hx hb dX0_countWays_49 rfl (lv_at hl 1 rfl) ?_
      refine xa_iald (k := 1) (v := 1) hx hb hK hP 1 0 rfl rfl (by decide) (by decide +kernel) (Nat.le_of_ble_eq_true rfl) rfl dX0_countWays_50 ?_
      refine lv_istore (lv' := [(6, .int 1), (4, .long 0), (3, .int 1), (2, .int (nI i)), (0, .ref ag), (1, .int 100)]) hx hb dX0_countWays_51 hl (by decide) rfl (fun ls hl => ?_)
      refine lv_iload hx hb dX0_countWays_53 (lv_at hl 0 rfl) ?_
      refine lv_aload_n hx hb dX0_countWays_55 rfl (lv_at hl 4 rfl) ?_
      refine va_get (D := (dC, dI)) (ci := 0) (v := .ref st) (C := RX0) (T := TX0) (N := 13) hx hb hts inX0 hown hK hP 0 rfl rfl 7 (by decide) (hts _ q108) (fun _ h9 => h9) rfl dX0_countWays_56 ?_
      refine lv_iload_n hx hb dX0_countWays_59 rfl (lv_at hl 2 rfl) ?_
      refine lv_iconst (v := 1) hx hb dX0_countWays_60 (by decide) ?_
      refine lv_iadd hx hb dX0_countWays_61 ?_
      refine tI (v := 2) (by decide +kernel) ?_
      refine xa_iald (k := 2) (v := 1) hx hb hK hP 1 0 rfl rfl (by decide) (by decide +kernel) (Nat.le_of_ble_eq_true rfl) rfl dX0_countWays_62 ?_
      refine lv_icmp_ge (tgt := 89) hx hb dX0_countWays_63 (by decide) (fun _ => ?_) (fun h9 => absurd (by decide) h9)
      refine lv_aload_n hx hb dX0_countWays_89 rfl (lv_at hl 4 rfl) ?_
      refine va_get (D := (dC, dI)) (ci := 0) (v := .ref wn) (C := RX0) (T := TX0) (N := 13) hx hb hts inX0 hown hK hP 0 rfl rfl 10 (by decide) (hts _ q113) (fun _ h9 => h9) rfl dX0_countWays_90 ?_
      refine lv_iload_n hx hb dX0_countWays_93 rfl (lv_at hl 2 rfl) ?_
      refine lv_lload hx hb dX0_countWays_94 (lv_at hl 1 rfl) ?_
      refine xa_last (k := 1) (w1 := [(ag, .inr (0, [.int 2, .int 1, .int 1, .ref k1, .ref k2, .ref k3, .ref k4, .ref st, .ref li, .int 1, .ref wn, .ref wb, .ref k5])), (st, .inl (cI, 251, .inl (upd (upd (upd (fun _ => 0) 0 0) 1 1) 2 1))), (li, .inl (cI, 1024, .inl (upd (fun _ => 0) 0 1))), (wb, .inl (cJ, 250, .inr (.inl g))), (wn, .inl (cJ, 250, .inr (.inl (vp_updL (vp_updL f 0 ((0 : Int64) + (g 1))) 1 0))))]) hx hb hK hP hD hS 4 2 rfl rfl (by decide) (by decide +kernel) (Nat.le_of_ble_eq_true rfl) rfl dX0_countWays_96 (fun H locs hP hD hS => ?_)
      refine lv_iinc (v := 2) (lv' := [(3, .int 2), (6, .int 1), (4, .long 0), (2, .int (nI i)), (0, .ref ag), (1, .int 100)]) hx hb dX0_countWays_97 hl (k := 2) rfl (by decide +kernel) (by decide) rfl (fun ls hl => ?_)
      refine lv_goto (tgt := 34) hx hb dX0_countWays_100 (by decide) ?_
      refine lv_iload_n hx hb dX0_countWays_34 rfl (lv_at hl 0 rfl) ?_
      refine lv_aload_n hx hb dX0_countWays_35 rfl (lv_at hl 4 rfl) ?_
      refine va_get (D := (dC, dI)) (ci := 0) (v := .int 2) (C := RX0) (T := TX0) (N := 13) hx hb hts inX0 hown hK hP 0 rfl rfl 0 (by decide) (hts _ q90) (fun _ h9 => h9) rfl dX0_countWays_36 ?_
      refine lv_icmp_ge (tgt := 103) hx hb dX0_countWays_39 (by decide) (fun _ => ?_) (fun h9 => absurd (by decide) h9)
      have hl : lv_has ls 7 [(2, .int (nI i)), (0, .ref ag), (1, .int 100)] := lv_sub hl [3, 4, 5] rfl
      refine lv_iinc (v := nI (i + 1)) (lv' := [(2, .int (nI (i + 1))), (0, .ref ag), (1, .int 100)]) hx hb dX0_countWays_103 hl (k := 0) rfl (nI_1 i) (by decide) rfl (fun ls hl => ?_)
      refine lv_goto (tgt := 10) hx hb dX0_countWays_106 (by decide) ?_
      exact ih (i + 1) (by omega) _ _ H locs ls hP hD hS hl
  refine lv_aload_n hx hb dX0_countWays_0 rfl (lv_at hl 0 rfl) ?_
  refine va_get (D := (dC, dI)) (ci := 0) (v := .ref wn) (C := RX0) (T := TX0) (N := 13) hx hb hts inX0 hown hK hP 0 rfl rfl 10 (by decide) (hts _ q113) (fun _ h9 => h9) rfl dX0_countWays_1 ?_
  refine lv_lconst (v := 1) hx hb dX0_countWays_4 (by decide) ?_
  have hP : va_P (dC, dI) vwCl ([(wn, .inl (cJ, 250, .inr (.inl f)))] ++ [(ag, .inr (0, [.int 2, .int 1, .int 1, .ref k1, .ref k2, .ref k3, .ref k4, .ref st, .ref li, .int 1, .ref wn, .ref wb, .ref k5])), (st, .inl (cI, 251, .inl (upd (upd (upd (fun _ => 0) 0 0) 1 1) 2 1))), (li, .inl (cI, 1024, .inl (upd (fun _ => 0) 0 1))), (wb, .inl (cJ, 250, .inr (.inl g)))]) s.heap := va_P_subm hP [4, 0, 1, 2, 3] rfl
  have hD : va_D A ([(wn, .inl (cJ, 250, .inr (.inl f)))] ++ [(ag, .inr (0, [.int 2, .int 1, .int 1, .ref k1, .ref k2, .ref k3, .ref k4, .ref st, .ref li, .int 1, .ref wn, .ref wb, .ref k5])), (st, .inl (cI, 251, .inl (upd (upd (upd (fun _ => 0) 0 0) 1 1) 2 1))), (li, .inl (cI, 1024, .inl (upd (fun _ => 0) 0 1))), (wb, .inl (cJ, 250, .inr (.inl g)))]) := hD.sub [4, 0, 1, 2, 3] (by decide) rfl
  refine xg_S (wc := [(wn, .inl (cJ, 250, .inr (.inl f)))]) (wr := [(ag, .inr (0, [.int 2, .int 1, .int 1, .ref k1, .ref k2, .ref k3, .ref k4, .ref st, .ref li, .int 1, .ref wn, .ref wb, .ref k5])), (st, .inl (cI, 251, .inl (upd (upd (upd (fun _ => 0) 0 0) 1 1) 2 1))), (li, .inl (cI, 1024, .inl (upd (fun _ => 0) 0 1))), (wb, .inl (cJ, 250, .inr (.inl g)))]) (As := [.ref wn, .long 1]) (rest := []) ⟨hx, hb, hml, hown, hts⟩ (cw_fill l hfl dC dI cI cZ cJ cD wn f _) q669 okJ7_fill_d0a16 hP hD hK hE hS hA rfl hl.1 rfl (Nat.le_of_ble_eq_true rfl) ⟨rfl, rfl⟩ ⟨(Nat.le_of_ble_eq_true rfl), (Nat.le_of_ble_eq_true rfl)⟩ ⟨(Nat.le_of_ble_eq_true rfl), (Nat.le_of_ble_eq_true rfl)⟩ dX0_countWays_5 (fun v w1 H locs hw hP hD hS => ?_)
  obtain ⟨rfl, f1, rfl⟩ := hw
  have hP : va_P (dC, dI) vwCl [(ag, .inr (0, [.int 2, .int 1, .int 1, .ref k1, .ref k2, .ref k3, .ref k4, .ref st, .ref li, .int 1, .ref wn, .ref wb, .ref k5])), (st, .inl (cI, 251, .inl (upd (upd (upd (fun _ => 0) 0 0) 1 1) 2 1))), (li, .inl (cI, 1024, .inl (upd (fun _ => 0) 0 1))), (wb, .inl (cJ, 250, .inr (.inl g))), (wn, .inl (cJ, 250, .inr (.inl f1)))] H := hP
  have hD : va_D A [(ag, .inr (0, [.int 2, .int 1, .int 1, .ref k1, .ref k2, .ref k3, .ref k4, .ref st, .ref li, .int 1, .ref wn, .ref wb, .ref k5])), (st, .inl (cI, 251, .inl (upd (upd (upd (fun _ => 0) 0 0) 1 1) 2 1))), (li, .inl (cI, 1024, .inl (upd (fun _ => 0) 0 1))), (wb, .inl (cJ, 250, .inr (.inl g))), (wn, .inl (cJ, 250, .inr (.inl f1)))] := hD
  refine W.eq (g2 := F0 m 8 ls []) rfl ?_
  refine lv_iconst (v := 0) hx hb dX0_countWays_8 (by decide) ?_
  refine lv_istore_n (lv' := [(2, .int 0), (0, .ref ag), (1, .int 100)]) hx hb dX0_countWays_9 rfl hl (by decide) rfl (fun ls hl => ?_)
  exact key 100 0 rfl f1 g H locs ls hP hD hS hl
set_option maxHeartbeats 4000000 in
set_option maxRecDepth 100000 in
theorem cw_ways (l : Launch) (hfl : l.stackTraces = false) (dC : Nat → ClassId) (dI : Nat → Nat → Nat) (cI cZ cJ cD : ClassId) (a1 m1 s1 ag k1 k2 k3 k4 st li wn wb k5 : Nat) (f g : Nat → Int64) (sz : Nat) : Met l yX3_ways (ws_ yX3_ways cX3_ways 2 (some .long)) (rm_ 3 0 0) (PC (dC, dI) (tyL cI cZ cJ cD) [(a1, .inr (3, [.ref m1, .ref ag, .ref s1, .int 1])), (ag, .inr (0, [.int 2, .int 1, .int 1, .ref k1, .ref k2, .ref k3, .ref k4, .ref st, .ref li, .int 1, .ref wn, .ref wb, .ref k5])), (st, .inl (cI, 251, .inl (upd (upd (upd (fun _ => 0) 0 0) 1 1) 2 1))), (li, .inl (cI, 1024, .inl (upd (fun _ => 0) 0 1))), (wb, .inl (cJ, 250, .inr (.inl g))), (wn, .inl (cJ, 250, .inr (.inl f)))] sz [.ref a1, .int 100]) (QX (dC, dI) (fun w v => ∃ (z : Int64) (f1 g1 : Nat → Int64), v = some (.long z) ∧ w = [(a1, .inr (3, [.ref m1, .ref ag, .ref s1, .int 1])), (ag, .inr (0, [.int 2, .int 1, .int 1, .ref k1, .ref k2, .ref k3, .ref k4, .ref st, .ref li, .int 1, .ref wn, .ref wb, .ref k5])), (st, .inl (cI, 251, .inl (upd (upd (upd (fun _ => 0) 0 0) 1 1) 2 1))), (li, .inl (cI, 1024, .inl (upd (fun _ => 0) 0 1))), (wb, .inl (cJ, 250, .inr (.inl g1))), (wn, .inl (cJ, 250, .inr (.inl f1)))]) (va_A [(a1, .inr (3, [.ref m1, .ref ag, .ref s1, .int 1])), (ag, .inr (0, [.int 2, .int 1, .int 1, .ref k1, .ref k2, .ref k3, .ref k4, .ref st, .ref li, .int 1, .ref wn, .ref wb, .ref k5])), (st, .inl (cI, 251, .inl (upd (upd (upd (fun _ => 0) 0 0) 1 1) 2 1))), (li, .inl (cI, 1024, .inl (upd (fun _ => 0) 0 1))), (wb, .inl (cJ, 250, .inr (.inl g))), (wn, .inl (cJ, 250, .inr (.inl f)))] sz)) 0 0 (va_A [(a1, .inr (3, [.ref m1, .ref ag, .ref s1, .int 1])), (ag, .inr (0, [.int 2, .int 1, .int 1, .ref k1, .ref k2, .ref k3, .ref k4, .ref st, .ref li, .int 1, .ref wn, .ref wb, .ref k5])), (st, .inl (cI, 251, .inl (upd (upd (upd (fun _ => 0) 0 0) 1 1) 2 1))), (li, .inl (cI, 1024, .inl (upd (fun _ => 0) 0 1))), (wb, .inl (cJ, 250, .inr (.inl g))), (wn, .inl (cJ, 250, .inr (.inl f)))] sz) := by
  refine xm_of (QQ := QX (dC, dI) (fun w v => ∃ (z : Int64) (f1 g1 : Nat → Int64), v = some (.long z) ∧ w = [(a1, .inr (3, [.ref m1, .ref ag, .ref s1, .int 1])), (ag, .inr (0, [.int 2, .int 1, .int 1, .ref k1, .ref k2, .ref k3, .ref k4, .ref st, .ref li, .int 1, .ref wn, .ref wb, .ref k5])), (st, .inl (cI, 251, .inl (upd (upd (upd (fun _ => 0) 0 0) 1 1) 2 1))), (li, .inl (cI, 1024, .inl (upd (fun _ => 0) 0 1))), (wb, .inl (cJ, 250, .inr (.inl g1))), (wn, .inl (cJ, 250, .inr (.inl f1)))])) (by decide +kernel) (Nat.le_of_ble_eq_true rfl) ?_
  intro p e s m below meth c A ls hx hb hr hml hown hts hlocks hin hK hP hD hE hA hS hl
  have hown : s.vm.findClass RX3 = some m.cls := hown
  have hl : lv_has ls 2 [(0, .ref a1), (1, .int 100)] := hl
  refine lv_aload_n hx hb dX3_ways_0 rfl (lv_at hl 0 rfl) ?_
  refine xc_V (b := a1) (wc := [(a1, .inr (3, [.ref m1, .ref ag, .ref s1, .int 1]))]) (As := []) (rest := []) (wr := [(ag, .inr (0, [.int 2, .int 1, .int 1, .ref k1, .ref k2, .ref k3, .ref k4, .ref st, .ref li, .int 1, .ref wn, .ref wb, .ref k5])), (st, .inl (cI, 251, .inl (upd (upd (upd (fun _ => 0) 0 0) 1 1) 2 1))), (li, .inl (cI, 1024, .inl (upd (fun _ => 0) 0 1))), (wb, .inl (cJ, 250, .inr (.inl g))), (wn, .inl (cJ, 250, .inr (.inl f)))]) ⟨hx, hb, hml, hown, hts⟩ (kX3_requireExploration_0 l hfl dC dI cI cZ cJ cD a1 m1 ag s1 _) q556 okX3_requireExploration hP hD hK hE hS hA [0] [1, 2, 3, 4, 5] rfl rfl (by decide) (by decide) (by decide) (ci := 3) rfl 0 rfl rfl rfl hl.1 rfl (Nat.le_of_ble_eq_true rfl) ⟨rfl, rfl⟩ ⟨Nat.le_of_ble_eq_true rfl, Nat.le_of_ble_eq_true rfl⟩ ⟨Nat.le_of_ble_eq_true rfl, Nat.le_of_ble_eq_true rfl⟩ dX3_ways_1 (fun H locs hP hD hS => ?_)
  have hP : va_P (dC, dI) vwCl [(ag, .inr (0, [.int 2, .int 1, .int 1, .ref k1, .ref k2, .ref k3, .ref k4, .ref st, .ref li, .int 1, .ref wn, .ref wb, .ref k5])), (st, .inl (cI, 251, .inl (upd (upd (upd (fun _ => 0) 0 0) 1 1) 2 1))), (li, .inl (cI, 1024, .inl (upd (fun _ => 0) 0 1))), (wb, .inl (cJ, 250, .inr (.inl g))), (wn, .inl (cJ, 250, .inr (.inl f))), (a1, .inr (3, [.ref m1, .ref ag, .ref s1, .int 1]))] H := hP
  have hD : va_D A [(ag, .inr (0, [.int 2, .int 1, .int 1, .ref k1, .ref k2, .ref k3, .ref k4, .ref st, .ref li, .int 1, .ref wn, .ref wb, .ref k5])), (st, .inl (cI, 251, .inl (upd (upd (upd (fun _ => 0) 0 0) 1 1) 2 1))), (li, .inl (cI, 1024, .inl (upd (fun _ => 0) 0 1))), (wb, .inl (cJ, 250, .inr (.inl g))), (wn, .inl (cJ, 250, .inr (.inl f))), (a1, .inr (3, [.ref m1, .ref ag, .ref s1, .int 1]))] := hD
  refine W.eq (g2 := F0 m 4 ls []) rfl ?_
  refine lv_iload_n hx hb dX3_ways_4 rfl (lv_at hl 1 rfl) ?_
  refine lv_if_lt (tgt := 14) hx hb dX3_ways_5 (by decide) (fun h9 => absurd h9 (by decide)) (fun _ => ?_)
  refine lv_iload_n hx hb dX3_ways_8 rfl (lv_at hl 1 rfl) ?_
  refine lv_bipush (v := 100) hx hb dX3_ways_9 (by decide) ?_
  refine lv_icmp_le (tgt := 24) hx hb dX3_ways_11 (by decide) (fun _ => ?_) (fun h9 => absurd (by decide) h9)
  refine lv_aload_n hx hb dX3_ways_24 rfl (lv_at hl 0 rfl) ?_
  refine va_get (D := (dC, dI)) (ci := 3) (v := .ref ag) (C := RX3) (T := TX3) (N := 4) hx hb hts inX3 hown hK hP 5 rfl rfl 1 (by decide) (hts _ q165) (fun _ h9 => h9) rfl dX3_ways_25 ?_
  refine lv_iload_n hx hb dX3_ways_28 rfl (lv_at hl 1 rfl) ?_
  have hP : va_P (dC, dI) vwCl ([(ag, .inr (0, [.int 2, .int 1, .int 1, .ref k1, .ref k2, .ref k3, .ref k4, .ref st, .ref li, .int 1, .ref wn, .ref wb, .ref k5])), (st, .inl (cI, 251, .inl (upd (upd (upd (fun _ => 0) 0 0) 1 1) 2 1))), (li, .inl (cI, 1024, .inl (upd (fun _ => 0) 0 1))), (wb, .inl (cJ, 250, .inr (.inl g))), (wn, .inl (cJ, 250, .inr (.inl f)))] ++ [(a1, .inr (3, [.ref m1, .ref ag, .ref s1, .int 1]))]) H := hP
  have hD : va_D A ([(ag, .inr (0, [.int 2, .int 1, .int 1, .ref k1, .ref k2, .ref k3, .ref k4, .ref st, .ref li, .int 1, .ref wn, .ref wb, .ref k5])), (st, .inl (cI, 251, .inl (upd (upd (upd (fun _ => 0) 0 0) 1 1) 2 1))), (li, .inl (cI, 1024, .inl (upd (fun _ => 0) 0 1))), (wb, .inl (cJ, 250, .inr (.inl g))), (wn, .inl (cJ, 250, .inr (.inl f)))] ++ [(a1, .inr (3, [.ref m1, .ref ag, .ref s1, .int 1]))]) := hD
  refine xg_V (b := ag) (wc := [(ag, .inr (0, [.int 2, .int 1, .int 1, .ref k1, .ref k2, .ref k3, .ref k4, .ref st, .ref li, .int 1, .ref wn, .ref wb, .ref k5])), (st, .inl (cI, 251, .inl (upd (upd (upd (fun _ => 0) 0 0) 1 1) 2 1))), (li, .inl (cI, 1024, .inl (upd (fun _ => 0) 0 1))), (wb, .inl (cJ, 250, .inr (.inl g))), (wn, .inl (cJ, 250, .inr (.inl f)))]) (wr := [(a1, .inr (3, [.ref m1, .ref ag, .ref s1, .int 1]))]) (As := [.int 100]) (rest := []) ⟨hx, hb, hml, hown, hts⟩ (cw_count l hfl dC dI cI cZ cJ cD ag k1 k2 k3 k4 st li wn wb k5 f g _) q665 okX0_countWays hP hD hK hE hS hA (ci := 0) rfl 0 rfl rfl rfl hl.1 rfl (Nat.le_of_ble_eq_true rfl) ⟨rfl, rfl⟩ ⟨(Nat.le_of_ble_eq_true rfl), (Nat.le_of_ble_eq_true rfl)⟩ ⟨(Nat.le_of_ble_eq_true rfl), (Nat.le_of_ble_eq_true rfl)⟩ dX3_ways_29 (fun v w1 H locs hw hP hD hS => ?_)
  obtain ⟨z, f1, g1, rfl, rfl⟩ := hw
  refine W.eq (g2 := F0 m 32 ls [.long z]) rfl ?_
  exact xq_l hx hb hr hlocks hP hD hS ⟨z, f1, g1, rfl, rfl⟩ (Nat.le_of_ble_eq_true rfl) (Nat.le_of_ble_eq_true rfl) dX3_ways_32
set_option maxHeartbeats 4000000 in
set_option maxRecDepth 100000 in
theorem cw_law (l : Launch) (hfl : l.stackTraces = false) (dC : Nat → ClassId) (dI : Nat → Nat → Nat) (cI cZ cJ cD : ClassId) (uo a1 m1 s1 ag k1 k2 k3 k4 st li wn wb k5 : Nat) (f g h : Nat → Int64) (sz : Nat) : Met l yL_ways (wh_ yL_ways cL_ways 4 (some .int) [(0, 8, 11, 15), (0, 8, 14, 13)]) (rm_ 4 0 0) (PC (dC, dI) (tyL cI cZ cJ cD) [(a1, .inr (3, [.ref m1, .ref ag, .ref s1, .int 1])), (ag, .inr (0, [.int 2, .int 1, .int 1, .ref k1, .ref k2, .ref k3, .ref k4, .ref st, .ref li, .int 1, .ref wn, .ref wb, .ref k5])), (st, .inl (cI, 251, .inl (upd (upd (upd (fun _ => 0) 0 0) 1 1) 2 1))), (li, .inl (cI, 1024, .inl (upd (fun _ => 0) 0 1))), (wb, .inl (cJ, 250, .inr (.inl g))), (wn, .inl (cJ, 250, .inr (.inl f))), (uo, .inl (cJ, 1, .inr (.inl h)))] sz [.ref a1, .int 100, .ref uo]) (QX (dC, dI) (fun w v => v = some (.int 0) ∧ ∃ (f1 g1 h1 : Nat → Int64), w = [(a1, .inr (3, [.ref m1, .ref ag, .ref s1, .int 1])), (ag, .inr (0, [.int 2, .int 1, .int 1, .ref k1, .ref k2, .ref k3, .ref k4, .ref st, .ref li, .int 1, .ref wn, .ref wb, .ref k5])), (st, .inl (cI, 251, .inl (upd (upd (upd (fun _ => 0) 0 0) 1 1) 2 1))), (li, .inl (cI, 1024, .inl (upd (fun _ => 0) 0 1))), (wb, .inl (cJ, 250, .inr (.inl g1))), (wn, .inl (cJ, 250, .inr (.inl f1))), (uo, .inl (cJ, 1, .inr (.inl h1)))]) (va_A [(a1, .inr (3, [.ref m1, .ref ag, .ref s1, .int 1])), (ag, .inr (0, [.int 2, .int 1, .int 1, .ref k1, .ref k2, .ref k3, .ref k4, .ref st, .ref li, .int 1, .ref wn, .ref wb, .ref k5])), (st, .inl (cI, 251, .inl (upd (upd (upd (fun _ => 0) 0 0) 1 1) 2 1))), (li, .inl (cI, 1024, .inl (upd (fun _ => 0) 0 1))), (wb, .inl (cJ, 250, .inr (.inl g))), (wn, .inl (cJ, 250, .inr (.inl f))), (uo, .inl (cJ, 1, .inr (.inl h)))] sz)) 0 0 (va_A [(a1, .inr (3, [.ref m1, .ref ag, .ref s1, .int 1])), (ag, .inr (0, [.int 2, .int 1, .int 1, .ref k1, .ref k2, .ref k3, .ref k4, .ref st, .ref li, .int 1, .ref wn, .ref wb, .ref k5])), (st, .inl (cI, 251, .inl (upd (upd (upd (fun _ => 0) 0 0) 1 1) 2 1))), (li, .inl (cI, 1024, .inl (upd (fun _ => 0) 0 1))), (wb, .inl (cJ, 250, .inr (.inl g))), (wn, .inl (cJ, 250, .inr (.inl f))), (uo, .inl (cJ, 1, .inr (.inl h)))] sz) := by
  refine xm_h (QQ := QX (dC, dI) (fun w v => v = some (.int 0) ∧ ∃ (f1 g1 h1 : Nat → Int64), w = [(a1, .inr (3, [.ref m1, .ref ag, .ref s1, .int 1])), (ag, .inr (0, [.int 2, .int 1, .int 1, .ref k1, .ref k2, .ref k3, .ref k4, .ref st, .ref li, .int 1, .ref wn, .ref wb, .ref k5])), (st, .inl (cI, 251, .inl (upd (upd (upd (fun _ => 0) 0 0) 1 1) 2 1))), (li, .inl (cI, 1024, .inl (upd (fun _ => 0) 0 1))), (wb, .inl (cJ, 250, .inr (.inl g1))), (wn, .inl (cJ, 250, .inr (.inl f1))), (uo, .inl (cJ, 1, .inr (.inl h1)))])) (by decide +kernel) (Nat.le_of_ble_eq_true rfl) ?_
  intro p e s m below meth c A ls hx hb hr hml hown hts hlocks htab hK hP hD hE hA hS hl
  have hown : s.vm.findClass RL = some m.cls := hown
  have hl : lv_has ls 4 [(0, .ref a1), (1, .int 100), (2, .ref uo)] := hl
  refine lv_aload_n hx hb dL_ways_0 rfl (lv_at hl 2 rfl) ?_
  refine lv_iconst (v := 0) hx hb dL_ways_1 (by decide) ?_
  refine lv_aload_n hx hb dL_ways_2 rfl (lv_at hl 0 rfl) ?_
  refine lv_iload_n hx hb dL_ways_3 rfl (lv_at hl 1 rfl) ?_
  have hP : va_P (dC, dI) vwCl ([(a1, .inr (3, [.ref m1, .ref ag, .ref s1, .int 1])), (ag, .inr (0, [.int 2, .int 1, .int 1, .ref k1, .ref k2, .ref k3, .ref k4, .ref st, .ref li, .int 1, .ref wn, .ref wb, .ref k5])), (st, .inl (cI, 251, .inl (upd (upd (upd (fun _ => 0) 0 0) 1 1) 2 1))), (li, .inl (cI, 1024, .inl (upd (fun _ => 0) 0 1))), (wb, .inl (cJ, 250, .inr (.inl g))), (wn, .inl (cJ, 250, .inr (.inl f)))] ++ [(uo, .inl (cJ, 1, .inr (.inl h)))]) s.heap := hP
  have hD : va_D A ([(a1, .inr (3, [.ref m1, .ref ag, .ref s1, .int 1])), (ag, .inr (0, [.int 2, .int 1, .int 1, .ref k1, .ref k2, .ref k3, .ref k4, .ref st, .ref li, .int 1, .ref wn, .ref wb, .ref k5])), (st, .inl (cI, 251, .inl (upd (upd (upd (fun _ => 0) 0 0) 1 1) 2 1))), (li, .inl (cI, 1024, .inl (upd (fun _ => 0) 0 1))), (wb, .inl (cJ, 250, .inr (.inl g))), (wn, .inl (cJ, 250, .inr (.inl f)))] ++ [(uo, .inl (cJ, 1, .inr (.inl h)))]) := hD
  refine xg_V (b := a1) (wc := [(a1, .inr (3, [.ref m1, .ref ag, .ref s1, .int 1])), (ag, .inr (0, [.int 2, .int 1, .int 1, .ref k1, .ref k2, .ref k3, .ref k4, .ref st, .ref li, .int 1, .ref wn, .ref wb, .ref k5])), (st, .inl (cI, 251, .inl (upd (upd (upd (fun _ => 0) 0 0) 1 1) 2 1))), (li, .inl (cI, 1024, .inl (upd (fun _ => 0) 0 1))), (wb, .inl (cJ, 250, .inr (.inl g))), (wn, .inl (cJ, 250, .inr (.inl f)))]) (wr := [(uo, .inl (cJ, 1, .inr (.inl h)))]) (As := [.int 100]) (rest := [.int 0, .ref uo]) ⟨hx, hb, hml, hown, hts⟩ (cw_ways l hfl dC dI cI cZ cJ cD a1 m1 s1 ag k1 k2 k3 k4 st li wn wb k5 f g _) q660 okX3_ways hP hD hK hE hS hA (ci := 3) rfl 0 rfl rfl rfl hl.1 rfl (Nat.le_of_ble_eq_true rfl) ⟨rfl, rfl⟩ ⟨(Nat.le_of_ble_eq_true rfl), (Nat.le_of_ble_eq_true rfl)⟩ ⟨(Nat.le_of_ble_eq_true rfl), (Nat.le_of_ble_eq_true rfl)⟩ dL_ways_4 (fun v w1 H locs hw hP hD hS => ?_)
  obtain ⟨z, f1, g1, rfl, rfl⟩ := hw
  refine W.eq (g2 := F0 m 7 ls [.long z, .int 0, .ref uo]) rfl ?_
  have hP : va_P (dC, dI) vwCl [(uo, .inl (cJ, 1, .inr (.inl h))), (a1, .inr (3, [.ref m1, .ref ag, .ref s1, .int 1])), (ag, .inr (0, [.int 2, .int 1, .int 1, .ref k1, .ref k2, .ref k3, .ref k4, .ref st, .ref li, .int 1, .ref wn, .ref wb, .ref k5])), (st, .inl (cI, 251, .inl (upd (upd (upd (fun _ => 0) 0 0) 1 1) 2 1))), (li, .inl (cI, 1024, .inl (upd (fun _ => 0) 0 1))), (wb, .inl (cJ, 250, .inr (.inl g1))), (wn, .inl (cJ, 250, .inr (.inl f1)))] H := hP
  have hD : va_D A [(uo, .inl (cJ, 1, .inr (.inl h))), (a1, .inr (3, [.ref m1, .ref ag, .ref s1, .int 1])), (ag, .inr (0, [.int 2, .int 1, .int 1, .ref k1, .ref k2, .ref k3, .ref k4, .ref st, .ref li, .int 1, .ref wn, .ref wb, .ref k5])), (st, .inl (cI, 251, .inl (upd (upd (upd (fun _ => 0) 0 0) 1 1) 2 1))), (li, .inl (cI, 1024, .inl (upd (fun _ => 0) 0 1))), (wb, .inl (cJ, 250, .inr (.inl g1))), (wn, .inl (cJ, 250, .inr (.inl f1)))] := hD
  refine xa_last (k := 0) (w1 := [(uo, .inl (cJ, 1, .inr (.inl (vp_updL h 0 z)))), (a1, .inr (3, [.ref m1, .ref ag, .ref s1, .int 1])), (ag, .inr (0, [.int 2, .int 1, .int 1, .ref k1, .ref k2, .ref k3, .ref k4, .ref st, .ref li, .int 1, .ref wn, .ref wb, .ref k5])), (st, .inl (cI, 251, .inl (upd (upd (upd (fun _ => 0) 0 0) 1 1) 2 1))), (li, .inl (cI, 1024, .inl (upd (fun _ => 0) 0 1))), (wb, .inl (cJ, 250, .inr (.inl g1))), (wn, .inl (cJ, 250, .inr (.inl f1)))]) hx hb hK hP hD hS 0 2 rfl rfl (by decide) (by decide +kernel) (Nat.le_of_ble_eq_true rfl) rfl dL_ways_7 (fun H locs hP hD hS => ?_)
  refine lv_goto (tgt := 17) hx hb dL_ways_8 (by decide) ?_
  refine lv_iconst (v := 0) hx hb dL_ways_17 (by decide) ?_
  have hP : va_P (dC, dI) vwCl [(a1, .inr (3, [.ref m1, .ref ag, .ref s1, .int 1])), (ag, .inr (0, [.int 2, .int 1, .int 1, .ref k1, .ref k2, .ref k3, .ref k4, .ref st, .ref li, .int 1, .ref wn, .ref wb, .ref k5])), (st, .inl (cI, 251, .inl (upd (upd (upd (fun _ => 0) 0 0) 1 1) 2 1))), (li, .inl (cI, 1024, .inl (upd (fun _ => 0) 0 1))), (wb, .inl (cJ, 250, .inr (.inl g1))), (wn, .inl (cJ, 250, .inr (.inl f1))), (uo, .inl (cJ, 1, .inr (.inl (vp_updL h 0 z))))] H := va_P_subm hP [1, 2, 3, 4, 5, 6, 0] rfl
  have hD : va_D A [(a1, .inr (3, [.ref m1, .ref ag, .ref s1, .int 1])), (ag, .inr (0, [.int 2, .int 1, .int 1, .ref k1, .ref k2, .ref k3, .ref k4, .ref st, .ref li, .int 1, .ref wn, .ref wb, .ref k5])), (st, .inl (cI, 251, .inl (upd (upd (upd (fun _ => 0) 0 0) 1 1) 2 1))), (li, .inl (cI, 1024, .inl (upd (fun _ => 0) 0 1))), (wb, .inl (cJ, 250, .inr (.inl g1))), (wn, .inl (cJ, 250, .inr (.inl f1))), (uo, .inl (cJ, 1, .inr (.inl (vp_updL h 0 z))))] := hD.sub [1, 2, 3, 4, 5, 6, 0] (by decide) rfl
  exact xq_i hx hb hr hlocks hP hD hS ⟨rfl, _, _, _, rfl⟩ (Nat.le_of_ble_eq_true rfl) (Nat.le_of_ble_eq_true rfl) dL_ways_18
