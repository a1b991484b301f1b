/-! WHAT ONE ways(100) OF THE REFERENCE MAKES, at an explored object that has no state (a legal one: a constraint against what is given): 101 new arrays of 250 longs, all of them there at its end. Four calls reach such an object (addVariable(2, 0), addConstraint(4, 0, 0, 0), give(0, -1, -1), explore), so 508 such calls fit in one script: 12827000 elements, and this claim has room for 8296276. PROVED HERE: one call. BY READING: that the four calls reach it, and the product. -/
abbrev wy_ob (t v cs ic : Int32) (b0 b1 b2 b3 b4 b5 b6 b7 b8 b9 b10 b11 b12 : Nat) : List Value := [.int t, .int v, .ref b0, .ref b1, .ref b2, .ref b3, .int cs, .ref b4, .ref b5, .ref b6, .ref b7, .int 1, .int ic, .int 0, .int 0, .ref b8, .ref b9, .ref b10, .ref b11, .ref b12]
abbrev wy_a (cJ : ClassId) : Nat → va_E := fun _ => .inl (cJ, 250, .inr (.inl (fun _ => 0)))
/-- it returned 0, and among its new cells are n different arrays of 250 longs -/
def wy_Q (D : va_G) (cJ : ClassId) (a0 : Nat) (fs : List Value) (n : Nat) (A : Nat → Prop) : Array Value → State → Outcome → State → Prop := fun _ st o t => o = .returned (some (.long 0)) ∧ (∃ L : List Nat, L.length = n ∧ va_P D vwCl ([(a0, .inr (4, fs))] ++ va_pl L (wy_a cJ)) t.heap ∧ va_D A ([(a0, .inr (4, fs))] ++ va_pl L (wy_a cJ))) ∧ va_F A st t
theorem wy_push (cJ : ClassId) (X : va_W) (L : List Nat) (q : Nat) : (X ++ va_pl L (wy_a cJ)) ++ [(q, .inl (cJ, 250, .inr (.inl (fun _ => 0))))] = X ++ va_pl (L ++ [q]) (wy_a cJ) := by
  unfold va_pl
  rw [List.map_append, List.append_assoc]
  rfl
set_option maxHeartbeats 4000000 in
set_option maxRecDepth 100000 in
theorem wy_ways (l : Launch) (dC : Nat → ClassId) (dI : Nat → Nat → Nat) (cI cZ cJ cD : ClassId) (a0 b0 b1 b2 b3 b4 b5 b6 b7 b8 b9 b10 b11 b12 : Nat) (t v cs ic : Int32) (sz : Nat) : Met l yX4_ways (ws_ yX4_ways cX4_ways 7 (some .long)) (rm_ 1 101 25250) (PC (dC, dI) (tyL cI cZ cJ cD) [(a0, .inr (4, wy_ob t v cs ic b0 b1 b2 b3 b4 b5 b6 b7 b8 b9 b10 b11 b12))] sz [.ref a0, .int 100]) (wy_Q (dC, dI) cJ a0 (wy_ob 0 v cs ic b0 b1 b2 b3 b4 b5 b6 b7 b8 b9 b10 b11 b12) 101 (va_A [(a0, .inr (4, wy_ob t v cs ic b0 b1 b2 b3 b4 b5 b6 b7 b8 b9 b10 b11 b12))] sz)) 101 25250 (va_A [(a0, .inr (4, wy_ob t v cs ic b0 b1 b2 b3 b4 b5 b6 b7 b8 b9 b10 b11 b12))] sz) := by
  refine xm_of (QQ := wy_Q (dC, dI) cJ a0 (wy_ob 0 v cs ic b0 b1 b2 b3 b4 b5 b6 b7 b8 b9 b10 b11 b12) 101) (by decide +kernel) (Nat.le_of_ble_eq_true rfl) ?_
  intro p e s m below meth c A ls hx hb hr hml hown hts hlocks hin hK hP hD hE hA hS hl
  have hown : s.vm.findClass RX4 = some m.cls := hown
  have hl : lv_has ls 7 [(0, .ref a0), (1, .int 100)] := hl
  have key : ∀ (n i : Nat), i + n = 100 → ∀ (L : List Nat) (now : Nat) (H : Heap) (locs : List Loc) (ls : Array Slot), L.length = i + 1 → va_P (dC, dI) vwCl ([(a0, .inr (4, wy_ob 0 v cs ic b0 b1 b2 b3 b4 b5 b6 b7 b8 b9 b10 b11 b12))] ++ va_pl L (wy_a cJ)) H → va_D A ([(a0, .inr (4, wy_ob 0 v cs ic b0 b1 b2 b3 b4 b5 b6 b7 b8 b9 b10 b11 b12))] ++ va_pl L (wy_a cJ)) → va_S A s.heap H locs → lv_has ls 7 [(3, .int (nI i)), (2, .ref now), (0, .ref a0), (1, .int 100)] → W p l e (rm_ 1 101 25250) s m [.ref a0, .int 100].toArray below meth c H locs (i + 1) (250 * (i + 1)) (MQ below (wy_Q (dC, dI) cJ a0 (wy_ob 0 v cs ic b0 b1 b2 b3 b4 b5 b6 b7 b8 b9 b10 b11 b12) 101 A) [.ref a0, .int 100].toArray s 101 25250 A) (F0 m 67 ls []) := by
    intro n
    induction n with
    | zero =>
      intro i hi L now H locs ls hLn hP hD hS hl
      have hi : i = 100 := by omega
      subst hi
      refine lv_iload_n hx hb dX4_ways_67 rfl (lv_at hl 0 rfl) ?_
      refine lv_iload_n hx hb dX4_ways_68 rfl (lv_at hl 3 rfl) ?_
      refine lv_icmp_ge (tgt := 153) hx hb dX4_ways_69 (by decide) (fun _ => ?_) (fun h9 => absurd (by decide) h9)
      refine lv_lconst (v := 0) hx hb dX4_ways_153 (by decide) ?_
      refine lv_lstore_n (lv' := [(3, .long 0), (2, .ref now), (0, .ref a0), (1, .int 100)]) hx hb dX4_ways_154 rfl hl (by decide) rfl (fun ls hl => ?_)
      refine lv_iconst (v := 0) hx hb dX4_ways_155 (by decide) ?_
      refine lv_istore (lv' := [(5, .int 0), (3, .long 0), (2, .ref now), (0, .ref a0), (1, .int 100)]) hx hb dX4_ways_156 hl (by decide) rfl (fun ls hl => ?_)
      refine lv_iload hx hb dX4_ways_158 (lv_at hl 0 rfl) ?_
      refine lv_aload_n hx hb dX4_ways_160 rfl (lv_at hl 3 rfl) ?_
      refine va_get (D := (dC, dI)) (ci := 4) (v := .int 0) (C := RX4) (T := TX4) (N := 20) hx hb hts inX4 hown hK hP 0 rfl rfl 13 (by decide) (hts _ f108) (fun _ h9 => h9) rfl dX4_ways_161 ?_
      refine lv_icmp_ge (tgt := 180) hx hb dX4_ways_164 (by decide) (fun _ => ?_) (fun h9 => absurd (by decide) h9)
      refine lv_lload_n hx hb dX4_ways_180 rfl (lv_at hl 1 rfl) ?_
      refine W.widen (k := 101) (n := 25250) (Nat.le_of_ble_eq_true rfl) (Nat.le_of_ble_eq_true rfl) ?_
      exact W.lret hx hb hr (fun u hu hW => ⟨rfl, ⟨L, hLn, by rw [hu]; exact hP, hD⟩, hS.F hu⟩) hS.2.2 dX4_ways_181 hlocks
    | succ n ih =>
      intro i hi L now H locs ls hLn hP hD hS hl
      refine lv_iload_n hx hb dX4_ways_67 rfl (lv_at hl 0 rfl) ?_
      refine lv_iload_n hx hb dX4_ways_68 rfl (lv_at hl 3 rfl) ?_
      refine lv_icmp_ge (tgt := 153) hx hb dX4_ways_69 (by decide) (fun h9 => absurd h9 (nI_ge (a := i) (b := 100) (by omega) (by decide))) (fun _ => ?_)
      refine lv_sipush (v := 250) hx hb dX4_ways_72 (by decide) ?_
      have hc1 : i + 1 + 1 ≤ 101 := by omega
      have hs1 : 250 * (i + 1) + 250 ≤ 25250 := by omega
      refine xa_newa (atype := .long) (a0 := (250, .inr (.inl (fun _ => 0)))) hx hb (hts _ arJ) rfl hK hP hD hS hA 2 rfl (fun _ _ => rfl) (fun _ => rfl) (by decide) (by decide +kernel) (Nat.le_of_ble_eq_true rfl) hc1 hs1 dX4_ways_75 (fun q H hP hD hS => ?_)
      rw [wy_push] at hP hD
      refine lv_astore (lv' := [(4, .ref q), (3, .int (nI i)), (2, .ref now), (0, .ref a0), (1, .int 100)]) hx hb dX4_ways_77 hl (by decide) rfl (fun ls hl => ?_)
      refine lv_iconst (v := 0) hx hb dX4_ways_79 (by decide) ?_
      refine lv_istore (lv' := [(5, .int 0), (4, .ref q), (3, .int (nI i)), (2, .ref now), (0, .ref a0), (1, .int 100)]) hx hb dX4_ways_80 hl (by decide) rfl (fun ls hl => ?_)
      refine lv_iload hx hb dX4_ways_82 (lv_at hl 0 rfl) ?_
      refine lv_aload_n hx hb dX4_ways_84 rfl (lv_at hl 4 rfl) ?_
      refine va_get (D := (dC, dI)) (ci := 4) (v := .int 0) (C := RX4) (T := TX4) (N := 20) hx hb hts inX4 hown hK hP 0 rfl rfl 13 (by decide) (hts _ f108) (fun _ h9 => h9) rfl dX4_ways_85 ?_
      refine lv_icmp_ge (tgt := 144) hx hb dX4_ways_88 (by decide) (fun _ => ?_) (fun h9 => absurd (by decide) h9)
      refine lv_aload hx hb dX4_ways_144 (lv_at hl 1 rfl) ?_
      refine lv_astore_n (lv' := [(2, .ref q), (5, .int 0), (4, .ref q), (3, .int (nI i)), (0, .ref a0), (1, .int 100)]) hx hb dX4_ways_146 rfl hl (by decide) rfl (fun ls hl => ?_)
      refine lv_iinc (v := nI (i + 1)) (lv' := [(3, .int (nI (i + 1))), (2, .ref q), (5, .int 0), (4, .ref q), (0, .ref a0), (1, .int 100)]) hx hb dX4_ways_147 hl (k := 3) rfl (nI_1 i) (by decide) rfl (fun ls hl => ?_)
      refine lv_goto (tgt := 67) hx hb dX4_ways_150 (by decide) ?_
      rw [show 250 * (i + 1) + 250 = 250 * (i + 1 + 1) by omega]
      exact ih (i + 1) (by omega) (L ++ [q]) q H locs ls (by rw [List.length_append, hLn]; rfl) hP hD hS (lv_sub hl [0, 1, 4, 5] rfl)
  refine lv_aload_n hx hb dX4_ways_0 rfl (lv_at hl 0 rfl) ?_
  refine lv_aload_n hx hb dX4_ways_1 rfl (lv_at hl 0 rfl) ?_
  refine va_get (D := (dC, dI)) (ci := 4) (v := .int 1) (C := RX4) (T := TX4) (N := 20) hx hb hts inX4 hown hK hP 0 rfl rfl 11 (by decide) (hts _ f62) (fun _ h9 => h9) rfl dX4_ways_2 ?_
  refine lv_if_ne (tgt := 12) hx hb dX4_ways_5 (by decide) (fun _ => ?_) (fun h9 => absurd h9 (by decide))
  refine lv_iload_n hx hb dX4_ways_12 rfl (lv_at hl 1 rfl) ?_
  refine lv_if_lt (tgt := 22) hx hb dX4_ways_13 (by decide) (fun h9 => absurd h9 (by decide)) (fun _ => ?_)
  refine lv_iload_n hx hb dX4_ways_16 rfl (lv_at hl 1 rfl) ?_
  refine lv_bipush (v := 100) hx hb dX4_ways_17 (by decide) ?_
  refine lv_icmp_le (tgt := 26) hx hb dX4_ways_19 (by decide) (fun _ => ?_) (fun h9 => absurd (by decide) h9)
  refine lv_iconst (v := 0) hx hb dX4_ways_26 (by decide) ?_
  refine va_put (D := (dC, dI)) (ci := 4) (v := .int 0) (ty := .int) (C := RX4) (T := TX4) (N := 20) hx hb hts inX4 tyX4 tyX4_ok nmX4 hown hK hP hD hS 0 rfl rfl 0 (by decide) (hts _ f51) (fun _ h9 => h9) rfl (by decide +kernel) rfl rfl (Nat.le_of_ble_eq_true rfl) dX4_ways_27 (fun H locs hP hD hS => ?_)
  have hP : va_P (dC, dI) vwCl [(a0, .inr (4, wy_ob 0 v cs ic b0 b1 b2 b3 b4 b5 b6 b7 b8 b9 b10 b11 b12))] H := hP
  have hD : va_D A [(a0, .inr (4, wy_ob 0 v cs ic b0 b1 b2 b3 b4 b5 b6 b7 b8 b9 b10 b11 b12))] := hD
  refine lv_aload_n hx hb dX4_ways_30 rfl (lv_at hl 0 rfl) ?_
  refine va_get (D := (dC, dI)) (ci := 4) (v := .int 0) (C := RX4) (T := TX4) (N := 20) hx hb hts inX4 hown hK hP 0 rfl rfl 0 (by decide) (hts _ f51) (fun _ h9 => h9) rfl dX4_ways_31 ?_
  refine lv_if_eq (tgt := 39) hx hb dX4_ways_34 (by decide) (fun _ => ?_) (fun h9 => absurd (by decide) h9)
  refine lv_sipush (v := 250) hx hb dX4_ways_39 (by decide) ?_
  refine xa_newa (atype := .long) (a0 := (250, .inr (.inl (fun _ => 0)))) hx hb (hts _ arJ) rfl hK hP hD hS hA 2 rfl (fun _ _ => rfl) (fun _ => rfl) (by decide) (by decide +kernel) (Nat.le_of_ble_eq_true rfl) (Nat.le_of_ble_eq_true rfl) (Nat.le_of_ble_eq_true rfl) dX4_ways_42 (fun q H hP hD hS => ?_)
  refine lv_astore_n (lv' := [(2, .ref q), (0, .ref a0), (1, .int 100)]) hx hb dX4_ways_44 rfl hl (by decide) rfl (fun ls hl => ?_)
  refine lv_iconst (v := 0) hx hb dX4_ways_45 (by decide) ?_
  refine lv_istore_n (lv' := [(3, .int 0), (2, .ref q), (0, .ref a0), (1, .int 100)]) hx hb dX4_ways_46 rfl hl (by decide) rfl (fun ls hl => ?_)
  refine lv_iload_n hx hb dX4_ways_47 rfl (lv_at hl 0 rfl) ?_
  refine lv_aload_n hx hb dX4_ways_48 rfl (lv_at hl 2 rfl) ?_
  refine va_get (D := (dC, dI)) (ci := 4) (v := .int 0) (C := RX4) (T := TX4) (N := 20) hx hb hts inX4 hown hK hP 0 rfl rfl 14 (by decide) (hts _ f133) (fun _ h9 => h9) rfl dX4_ways_49 ?_
  refine lv_icmp_ge (tgt := 65) hx hb dX4_ways_52 (by decide) (fun _ => ?_) (fun h9 => absurd (by decide) h9)
  refine lv_iconst (v := 0) hx hb dX4_ways_65 (by decide) ?_
  refine lv_istore_n (lv' := [(3, .int 0), (2, .ref q), (0, .ref a0), (1, .int 100)]) hx hb dX4_ways_66 rfl hl (by decide) rfl (fun ls hl => ?_)
  exact key 100 0 rfl [q] q H locs ls rfl hP hD hS hl
