set_option maxHeartbeats 4000000 in
set_option maxRecDepth 100000 in
theorem mw_ways (l : Launch) (hfl : l.stackTraces = false) (dC : Nat → ClassId) (dI : Nat → Nat → Nat) (cI cZ cJ cD : ClassId) (um ue c0 c1 c2 c3 c4 c5 c6 c7 c8 c9 c10 c11 : Nat) (sz : Nat) : Met l yX4_ways (ws_ yX4_ways cX4_ways 7 (some .long)) (rm_ 1 101 25250) (PC (dC, dI) (tyL cI cZ cJ cD) [(um, .inr (4, [.int 0, .int 0, .ref c0, .ref c1, .ref c2, .ref c3, .int 0, .ref c4, .ref c5, .ref c6, .ref c7, .int 1, .int 1, .int 2, .int 1, .ref c8, .ref c9, .ref ue, .ref c10, .ref c11])), (ue, .inl (cZ, 62500, .inl (upd (upd (upd (upd (fun _ => 0) 0 0) 1 1) 250 0) 251 0)))] sz [.ref um, .int 100]) (QX (dC, dI) (fun w v => ∃ (z : Int64) (PL : List (Nat × (Nat → Int64))), v = some (.long z) ∧ PL.length = 101 ∧ w = List.append [(um, .inr (4, [.int 0, .int 0, .ref c0, .ref c1, .ref c2, .ref c3, .int 0, .ref c4, .ref c5, .ref c6, .ref c7, .int 1, .int 1, .int 2, .int 1, .ref c8, .ref c9, .ref ue, .ref c10, .ref c11])), (ue, .inl (cZ, 62500, .inl (upd (upd (upd (upd (fun _ => 0) 0 0) 1 1) 250 0) 251 0)))] (pool cJ PL)) (va_A [(um, .inr (4, [.int 0, .int 0, .ref c0, .ref c1, .ref c2, .ref c3, .int 0, .ref c4, .ref c5, .ref c6, .ref c7, .int 1, .int 1, .int 2, .int 1, .ref c8, .ref c9, .ref ue, .ref c10, .ref c11])), (ue, .inl (cZ, 62500, .inl (upd (upd (upd (upd (fun _ => 0) 0 0) 1 1) 250 0) 251 0)))] sz)) 101 25250 (va_A [(um, .inr (4, [.int 0, .int 0, .ref c0, .ref c1, .ref c2, .ref c3, .int 0, .ref c4, .ref c5, .ref c6, .ref c7, .int 1, .int 1, .int 2, .int 1, .ref c8, .ref c9, .ref ue, .ref c10, .ref c11])), (ue, .inl (cZ, 62500, .inl (upd (upd (upd (upd (fun _ => 0) 0 0) 1 1) 250 0) 251 0)))] sz) := by
  refine xm_of (QQ := QX (dC, dI) (fun w v => ∃ (z : Int64) (PL : List (Nat × (Nat → Int64))), v = some (.long z) ∧ PL.length = 101 ∧ w = List.append [(um, .inr (4, [.int 0, .int 0, .ref c0, .ref c1, .ref c2, .ref c3, .int 0, .ref c4, .ref c5, .ref c6, .ref c7, .int 1, .int 1, .int 2, .int 1, .ref c8, .ref c9, .ref ue, .ref c10, .ref c11])), (ue, .inl (cZ, 62500, .inl (upd (upd (upd (upd (fun _ => 0) 0 0) 1 1) 250 0) 251 0)))] (pool cJ PL))) (by decide +kernel) (Nat.le_of_ble_eq_true rfl) ?_
  intro p e s m below meth c A ls hx hb hr hml hown hts hlocks hin hK hP hD hE hA hS hl
  have hown : s.vm.findClass RX4 = some m.cls := hown
  have hl : lv_has ls 7 [(0, .ref um), (1, .int 100)] := hl
  have key : ∀ (n i : Nat), i + n = 100 → ∀ (PL : List (Nat × (Nat → Int64))) (now : Nat) (f : Nat → Int64) (H : Heap) (locs : List Loc) (ls : Array Slot), PL.length = i → va_P (dC, dI) vwCl ([(um, .inr (4, [.int 0, .int 0, .ref c0, .ref c1, .ref c2, .ref c3, .int 0, .ref c4, .ref c5, .ref c6, .ref c7, .int 1, .int 1, .int 2, .int 1, .ref c8, .ref c9, .ref ue, .ref c10, .ref c11])), (ue, .inl (cZ, 62500, .inl (upd (upd (upd (upd (fun _ => 0) 0 0) 1 1) 250 0) 251 0))), (now, .inl (cJ, 250, .inr (.inl f)))] ++ pool cJ PL) H → va_D A ([(um, .inr (4, [.int 0, .int 0, .ref c0, .ref c1, .ref c2, .ref c3, .int 0, .ref c4, .ref c5, .ref c6, .ref c7, .int 1, .int 1, .int 2, .int 1, .ref c8, .ref c9, .ref ue, .ref c10, .ref c11])), (ue, .inl (cZ, 62500, .inl (upd (upd (upd (upd (fun _ => 0) 0 0) 1 1) 250 0) 251 0))), (now, .inl (cJ, 250, .inr (.inl f)))] ++ pool cJ PL) → va_S A s.heap H locs → lv_has ls 7 [(3, .int (nI i)), (2, .ref now), (0, .ref um), (1, .int 100)] → W p l e (rm_ 1 101 25250) s m [.ref um, .int 100].toArray below meth c H locs (i + 1) (250 * (i + 1)) (MQ below (QX (dC, dI) (fun w v => ∃ (z : Int64) (PL : List (Nat × (Nat → Int64))), v = some (.long z) ∧ PL.length = 101 ∧ w = List.append [(um, .inr (4, [.int 0, .int 0, .ref c0, .ref c1, .ref c2, .ref c3, .int 0, .ref c4, .ref c5, .ref c6, .ref c7, .int 1, .int 1, .int 2, .int 1, .ref c8, .ref c9, .ref ue, .ref c10, .ref c11])), (ue, .inl (cZ, 62500, .inl (upd (upd (upd (upd (fun _ => 0) 0 0) 1 1) 250 0) 251 0)))] (pool cJ PL)) A) [.ref um, .int 100].toArray s 101 25250 A) (F0 m 67 ls []) := by
    intro n
    induction n with
    | zero =>
      intro i hi PL now f H locs ls hLn hP hD hS hl
      have hi : i = 100 := by omega
      subst hi
      refine lv_iload_n hx hb dX4_ways_67 rfl (lv_at hl 0 rfl) ?_
      refine lv_iload_n hx hb dX4_ways_68 rfl (lv_at hl 3 rfl) ?_
      refine lv_icmp_ge (tgt := 153) hx hb dX4_ways_69 (by decide) (fun _ => ?_) (fun h9 => absurd (by decide) h9)
      refine lv_lconst (v := 0) hx hb dX4_ways_153 (by decide) ?_
      refine lv_lstore_n (lv' := [(3, .long 0), (2, .ref now), (0, .ref um), (1, .int 100)]) hx hb dX4_ways_154 rfl hl (by decide) rfl (fun ls hl => ?_)
      refine lv_iconst (v := 0) hx hb dX4_ways_155 (by decide) ?_
      refine lv_istore (lv' := [(5, .int 0), (3, .long 0), (2, .ref now), (0, .ref um), (1, .int 100)]) hx hb dX4_ways_156 hl (by decide) rfl (fun ls hl => ?_)
      refine lv_iload hx hb dX4_ways_158 (lv_at hl 0 rfl) ?_
      refine lv_aload_n hx hb dX4_ways_160 rfl (lv_at hl 3 rfl) ?_
      refine va_get (D := (dC, dI)) (ci := 4) (v := .int 2) (C := RX4) (T := TX4) (N := 20) hx hb hts inX4 hown hK hP 0 rfl rfl 13 (by decide) (hts _ q700) (fun _ h9 => h9) rfl dX4_ways_161 ?_
      refine lv_icmp_ge (tgt := 180) hx hb dX4_ways_164 (by decide) (fun h9 => absurd h9 (by decide)) (fun _ => ?_)
      refine lv_lload_n hx hb dX4_ways_167 rfl (lv_at hl 1 rfl) ?_
      refine lv_aload_n hx hb dX4_ways_168 rfl (lv_at hl 2 rfl) ?_
      refine lv_iload hx hb dX4_ways_169 (lv_at hl 0 rfl) ?_
      refine xa_lald (k := 0) (v := (f 0)) hx hb hK hP 2 2 rfl rfl (by decide) (by decide +kernel) (Nat.le_of_ble_eq_true rfl) rfl dX4_ways_171 ?_
      refine lv_ladd hx hb dX4_ways_172 ?_
      refine lv_lstore_n (lv' := [(3, .long ((0 : Int64) + (f 0))), (5, .int 0), (2, .ref now), (0, .ref um), (1, .int 100)]) hx hb dX4_ways_173 rfl hl (by decide) rfl (fun ls hl => ?_)
      refine lv_iinc (v := 1) (lv' := [(5, .int 1), (3, .long ((0 : Int64) + (f 0))), (2, .ref now), (0, .ref um), (1, .int 100)]) hx hb dX4_ways_174 hl (k := 1) rfl (by decide +kernel) (by decide) rfl (fun ls hl => ?_)
      refine lv_goto (tgt := 158) hx hb dX4_ways_177 (by decide) ?_
      refine lv_iload hx hb dX4_ways_158 (lv_at hl 0 rfl) ?_
      refine lv_aload_n hx hb dX4_ways_160 rfl (lv_at hl 3 rfl) ?_
      refine va_get (D := (dC, dI)) (ci := 4) (v := .int 2) (C := RX4) (T := TX4) (N := 20) hx hb hts inX4 hown hK hP 0 rfl rfl 13 (by decide) (hts _ q700) (fun _ h9 => h9) rfl dX4_ways_161 ?_
      refine lv_icmp_ge (tgt := 180) hx hb dX4_ways_164 (by decide) (fun h9 => absurd h9 (by decide)) (fun _ => ?_)
      refine lv_lload_n hx hb dX4_ways_167 rfl (lv_at hl 1 rfl) ?_
      refine lv_aload_n hx hb dX4_ways_168 rfl (lv_at hl 2 rfl) ?_
      refine lv_iload hx hb dX4_ways_169 (lv_at hl 0 rfl) ?_
      refine xa_lald (k := 1) (v := (f 1)) hx hb hK hP 2 2 rfl rfl (by decide) (by decide +kernel) (Nat.le_of_ble_eq_true rfl) rfl dX4_ways_171 ?_
      refine lv_ladd hx hb dX4_ways_172 ?_
      refine lv_lstore_n (lv' := [(3, .long (((0 : Int64) + (f 0)) + (f 1))), (5, .int 1), (2, .ref now), (0, .ref um), (1, .int 100)]) hx hb dX4_ways_173 rfl hl (by decide) rfl (fun ls hl => ?_)
      refine lv_iinc (v := 2) (lv' := [(5, .int 2), (3, .long (((0 : Int64) + (f 0)) + (f 1))), (2, .ref now), (0, .ref um), (1, .int 100)]) hx hb dX4_ways_174 hl (k := 1) rfl (by decide +kernel) (by decide) rfl (fun ls hl => ?_)
      refine lv_goto (tgt := 158) hx hb dX4_ways_177 (by decide) ?_
      refine lv_iload hx hb dX4_ways_158 (lv_at hl 0 rfl) ?_
      refine lv_aload_n hx hb dX4_ways_160 rfl (lv_at hl 3 rfl) ?_
      refine va_get (D := (dC, dI)) (ci := 4) (v := .int 2) (C := RX4) (T := TX4) (N := 20) hx hb hts inX4 hown hK hP 0 rfl rfl 13 (by decide) (hts _ q700) (fun _ h9 => h9) rfl dX4_ways_161 ?_
      refine lv_icmp_ge (tgt := 180) hx hb dX4_ways_164 (by decide) (fun _ => ?_) (fun h9 => absurd (by decide) h9)
      refine lv_lload_n hx hb dX4_ways_180 rfl (lv_at hl 1 rfl) ?_
      have hP := vP_perm (pm_3 _ _ _ _) hP
      have hD := vD_perm (pm_3 _ _ _ _) hD
      rw [← pool_one cJ now f, ← pool_app] at hP hD
      exact xq_l hx hb hr hlocks hP hD hS ⟨_, PL ++ [(now, f)], rfl, by rw [List.length_append, hLn]; rfl, rfl⟩ (Nat.le_of_ble_eq_true rfl) (Nat.le_of_ble_eq_true rfl) dX4_ways_181
    | succ n ih =>
      intro i hi PL now f H locs ls hLn hP hD hS hl
      refine lv_iload_n hx hb dX4_ways_67 rfl (lv_at hl 0 rfl) ?_
      refine lv_iload_n hx hb dX4_ways_68 rfl (lv_at hl 3 rfl) ?_
      refine lv_icmp_ge (tgt := 153) hx hb dX4_ways_69 (by decide) (fun h9 => absurd h9 (nI_ge (a := i) (b := 100) (by omega) (by decide))) (fun _ => ?_)
      refine lv_sipush (v := 250) hx hb dX4_ways_72 (by decide) ?_
      have hc1 : i + 1 + 1 ≤ 101 := by omega
      have hs1 : 250 * (i + 1) + 250 ≤ 25250 := by omega
      refine xa_newa (atype := .long) (a0 := (250, .inr (.inl (fun _ => 0)))) hx hb (hts _ q144) rfl hK hP hD hS hA 2 rfl (fun _ _ => rfl) (fun _ => rfl) (by decide) (by decide +kernel) (Nat.le_of_ble_eq_true rfl) hc1 hs1 dX4_ways_75 (fun q H hP hD hS => ?_)
      have hP : va_P (dC, dI) vwCl ([(um, .inr (4, [.int 0, .int 0, .ref c0, .ref c1, .ref c2, .ref c3, .int 0, .ref c4, .ref c5, .ref c6, .ref c7, .int 1, .int 1, .int 2, .int 1, .ref c8, .ref c9, .ref ue, .ref c10, .ref c11])), (ue, .inl (cZ, 62500, .inl (upd (upd (upd (upd (fun _ => 0) 0 0) 1 1) 250 0) 251 0))), (now, .inl (cJ, 250, .inr (.inl f))), (q, .inl (cJ, 250, .inr (.inl (fun _ => 0))))] ++ pool cJ PL) H := vP_perm (pm_1 _ _ _) hP
      have hD : va_D A ([(um, .inr (4, [.int 0, .int 0, .ref c0, .ref c1, .ref c2, .ref c3, .int 0, .ref c4, .ref c5, .ref c6, .ref c7, .int 1, .int 1, .int 2, .int 1, .ref c8, .ref c9, .ref ue, .ref c10, .ref c11])), (ue, .inl (cZ, 62500, .inl (upd (upd (upd (upd (fun _ => 0) 0 0) 1 1) 250 0) 251 0))), (now, .inl (cJ, 250, .inr (.inl f))), (q, .inl (cJ, 250, .inr (.inl (fun _ => 0))))] ++ pool cJ PL) := vD_perm (pm_1 _ _ _) hD
      refine lv_astore (lv' := [(4, .ref q), (3, .int (nI i)), (2, .ref now), (0, .ref um), (1, .int 100)]) hx hb dX4_ways_77 hl (by decide) rfl (fun ls hl => ?_)
      refine lv_iconst (v := 0) hx hb dX4_ways_79 (by decide) ?_
      refine lv_istore (lv' := [(5, .int 0), (4, .ref q), (3, .int (nI i)), (2, .ref now), (0, .ref um), (1, .int 100)]) hx hb dX4_ways_80 hl (by decide) rfl (fun ls hl => ?_)
      refine lv_iload hx hb dX4_ways_82 (lv_at hl 0 rfl) ?_
      refine lv_aload_n hx hb dX4_ways_84 rfl (lv_at hl 4 rfl) ?_
      refine va_get (D := (dC, dI)) (ci := 4) (v := .int 2) (C := RX4) (T := TX4) (N := 20) hx hb hts inX4 hown hK hP 0 rfl rfl 13 (by decide) (hts _ q700) (fun _ h9 => h9) rfl dX4_ways_85 ?_
      refine lv_icmp_ge (tgt := 144) hx hb dX4_ways_88 (by decide) (fun h9 => absurd h9 (by decide)) (fun _ => ?_)
      refine lv_iconst (v := 0) hx hb dX4_ways_91 (by decide) ?_
      refine lv_istore (lv' := [(6, .int 0), (5, .int 0), (4, .ref q), (3, .int (nI i)), (2, .ref now), (0, .ref um), (1, .int 100)]) hx hb dX4_ways_92 hl (by decide) rfl (fun ls hl => ?_)
      refine lv_iload hx hb dX4_ways_94 (lv_at hl 0 rfl) ?_
      refine lv_aload_n hx hb dX4_ways_96 rfl (lv_at hl 5 rfl) ?_
      refine va_get (D := (dC, dI)) (ci := 4) (v := .int 2) (C := RX4) (T := TX4) (N := 20) hx hb hts inX4 hown hK hP 0 rfl rfl 13 (by decide) (hts _ q700) (fun _ h9 => h9) rfl dX4_ways_97 ?_
      refine lv_icmp_ge (tgt := 138) hx hb dX4_ways_100 (by decide) (fun h9 => absurd h9 (by decide)) (fun _ => ?_)
      refine lv_aload_n hx hb dX4_ways_103 rfl (lv_at hl 5 rfl) ?_
      refine va_get (D := (dC, dI)) (ci := 4) (v := .ref ue) (C := RX4) (T := TX4) (N := 20) hx hb hts inX4 hown hK hP 0 rfl rfl 17 (by decide) (hts _ q704) (fun _ h9 => h9) rfl dX4_ways_104 ?_
      refine lv_sipush (v := 250) hx hb dX4_ways_107 (by decide) ?_
      refine lv_iload hx hb dX4_ways_110 (lv_at hl 1 rfl) ?_
      refine lv_imul hx hb dX4_ways_112 ?_
      refine tI (v := 0) (by decide +kernel) ?_
      refine lv_iload hx hb dX4_ways_113 (lv_at hl 0 rfl) ?_
      refine lv_iadd hx hb dX4_ways_115 ?_
      refine tI (v := 0) (by decide +kernel) ?_
      refine xa_zald (k := 0) (v := 0) hx hb hK hP 1 1 rfl rfl (by decide) (by decide +kernel) (Nat.le_of_ble_eq_true rfl) rfl dX4_ways_116 ?_
      refine lv_if_eq (tgt := 132) hx hb dX4_ways_117 (by decide) (fun _ => ?_) (fun h9 => absurd (by decide) h9)
      refine lv_iinc (v := 1) (lv' := [(6, .int 1), (5, .int 0), (4, .ref q), (3, .int (nI i)), (2, .ref now), (0, .ref um), (1, .int 100)]) hx hb dX4_ways_132 hl (k := 0) rfl (by decide +kernel) (by decide) rfl (fun ls hl => ?_)
      refine lv_goto (tgt := 94) hx hb dX4_ways_135 (by decide) ?_
      refine lv_iload hx hb dX4_ways_94 (lv_at hl 0 rfl) ?_
      refine lv_aload_n hx hb dX4_ways_96 rfl (lv_at hl 5 rfl) ?_
      refine va_get (D := (dC, dI)) (ci := 4) (v := .int 2) (C := RX4) (T := TX4) (N := 20) hx hb hts inX4 hown hK hP 0 rfl rfl 13 (by decide) (hts _ q700) (fun _ h9 => h9) rfl dX4_ways_97 ?_
      refine lv_icmp_ge (tgt := 138) hx hb dX4_ways_100 (by decide) (fun h9 => absurd h9 (by decide)) (fun _ => ?_)
      refine lv_aload_n hx hb dX4_ways_103 rfl (lv_at hl 5 rfl) ?_
      refine va_get (D := (dC, dI)) (ci := 4) (v := .ref ue) (C := RX4) (T := TX4) (N := 20) hx hb hts inX4 hown hK hP 0 rfl rfl 17 (by decide) (hts _ q704) (fun _ h9 => h9) rfl dX4_ways_104 ?_
      refine lv_sipush (v := 250) hx hb dX4_ways_107 (by decide) ?_
      refine lv_iload hx hb dX4_ways_110 (lv_at hl 1 rfl) ?_
      refine lv_imul hx hb dX4_ways_112 ?_
      refine tI (v := 0) (by decide +kernel) ?_
      refine lv_iload hx hb dX4_ways_113 (lv_at hl 0 rfl) ?_
      refine lv_iadd hx hb dX4_ways_115 ?_
      refine tI (v := 1) (by decide +kernel) ?_
      refine xa_zald (k := 1) (v := 1) hx hb hK hP 1 1 rfl rfl (by decide) (by decide +kernel) (Nat.le_of_ble_eq_true rfl) rfl dX4_ways_116 ?_
      refine lv_if_eq (tgt := 132) hx hb dX4_ways_117 (by decide) (fun h9 => absurd h9 (by decide)) (fun _ => ?_)
      refine lv_aload hx hb dX4_ways_120 (lv_at hl 2 rfl) ?_
      refine lv_iload hx hb dX4_ways_122 (lv_at hl 0 rfl) ?_
      refine lv_dup2_11 hx hb dX4_ways_124 rfl rfl ?_
      refine xa_lald (k := 1) (v := 0) hx hb hK hP 3 2 rfl rfl (by decide) (by decide +kernel) (Nat.le_of_ble_eq_true rfl) rfl dX4_ways_125 ?_
      refine lv_aload_n hx hb dX4_ways_126 rfl (lv_at hl 4 rfl) ?_
      refine lv_iload hx hb dX4_ways_127 (lv_at hl 1 rfl) ?_
      refine xa_lald (k := 0) (v := (f 0)) hx hb hK hP 2 2 rfl rfl (by decide) (by decide +kernel) (Nat.le_of_ble_eq_true rfl) rfl dX4_ways_129 ?_
      refine lv_ladd hx hb dX4_ways_130 ?_
      refine xa_last (k := 1) (w1 := ([(um, .inr (4, [.int 0, .int 0, .ref c0, .ref c1, .ref c2, .ref c3, .int 0, .ref c4, .ref c5, .ref c6, .ref c7, .int 1, .int 1, .int 2, .int 1, .ref c8, .ref c9, .ref ue, .ref c10, .ref c11])), (ue, .inl (cZ, 62500, .inl (upd (upd (upd (upd (fun _ => 0) 0 0) 1 1) 250 0) 251 0))), (now, .inl (cJ, 250, .inr (.inl f))), (q, .inl (cJ, 250, .inr (.inl (vp_updL (fun _ => 0) 1 ((0 : Int64) + (f 0))))))] ++ pool cJ PL)) hx hb hK hP hD hS 3 2 rfl rfl (by decide) (by decide +kernel) (Nat.le_of_ble_eq_true rfl) rfl dX4_ways_131 (fun H locs hP hD hS => ?_)
      refine lv_iinc (v := 2) (lv' := [(6, .int 2), (5, .int 0), (4, .ref q), (3, .int (nI i)), (2, .ref now), (0, .ref um), (1, .int 100)]) hx hb dX4_ways_132 hl (k := 0) rfl (by decide +kernel) (by decide) rfl (fun ls hl => ?_)
      refine lv_goto (tgt := 94) hx hb dX4_ways_135 (by decide) ?_
      refine lv_iload hx hb dX4_ways_94 (lv_at hl 0 rfl) ?_
      refine lv_aload_n hx hb dX4_ways_96 rfl (lv_at hl 5 rfl) ?_
      refine va_get (D := (dC, dI)) (ci := 4) (v := .int 2) (C := RX4) (T := TX4) (N := 20) hx hb hts inX4 hown hK hP 0 rfl rfl 13 (by decide) (hts _ q700) (fun _ h9 => h9) rfl dX4_ways_97 ?_
      refine lv_icmp_ge (tgt := 138) hx hb dX4_ways_100 (by decide) (fun _ => ?_) (fun h9 => absurd (by decide) h9)
      refine lv_iinc (v := 1) (lv' := [(5, .int 1), (6, .int 2), (4, .ref q), (3, .int (nI i)), (2, .ref now), (0, .ref um), (1, .int 100)]) hx hb dX4_ways_138 hl (k := 1) rfl (by decide +kernel) (by decide) rfl (fun ls hl => ?_)
      refine lv_goto (tgt := 82) hx hb dX4_ways_141 (by decide) ?_
      refine lv_iload hx hb dX4_ways_82 (lv_at hl 0 rfl) ?_
      refine lv_aload_n hx hb dX4_ways_84 rfl (lv_at hl 5 rfl) ?_
      refine va_get (D := (dC, dI)) (ci := 4) (v := .int 2) (C := RX4) (T := TX4) (N := 20) hx hb hts inX4 hown hK hP 0 rfl rfl 13 (by decide) (hts _ q700) (fun _ h9 => h9) rfl dX4_ways_85 ?_
      refine lv_icmp_ge (tgt := 144) hx hb dX4_ways_88 (by decide) (fun h9 => absurd h9 (by decide)) (fun _ => ?_)
      refine lv_iconst (v := 0) hx hb dX4_ways_91 (by decide) ?_
      refine lv_istore (lv' := [(6, .int 0), (5, .int 1), (4, .ref q), (3, .int (nI i)), (2, .ref now), (0, .ref um), (1, .int 100)]) hx hb dX4_ways_92 hl (by decide) rfl (fun ls hl => ?_)
      refine lv_iload hx hb dX4_ways_94 (lv_at hl 0 rfl) ?_
      refine lv_aload_n hx hb dX4_ways_96 rfl (lv_at hl 5 rfl) ?_
      refine va_get (D := (dC, dI)) (ci := 4) (v := .int 2) (C := RX4) (T := TX4) (N := 20) hx hb hts inX4 hown hK hP 0 rfl rfl 13 (by decide) (hts _ q700) (fun _ h9 => h9) rfl dX4_ways_97 ?_
      refine lv_icmp_ge (tgt := 138) hx hb dX4_ways_100 (by decide) (fun h9 => absurd h9 (by decide)) (fun _ => ?_)
      refine lv_aload_n hx hb dX4_ways_103 rfl (lv_at hl 5 rfl) ?_
      refine va_get (D := (dC, dI)) (ci := 4) (v := .ref ue) (C := RX4) (T := TX4) (N := 20) hx hb hts inX4 hown hK hP 0 rfl rfl 17 (by decide) (hts _ q704) (fun _ h9 => h9) rfl dX4_ways_104 ?_
      refine lv_sipush (v := 250) hx hb dX4_ways_107 (by decide) ?_
      refine lv_iload hx hb dX4_ways_110 (lv_at hl 1 rfl) ?_
      refine lv_imul hx hb dX4_ways_112 ?_
      refine tI (v := 250) (by decide +kernel) ?_
      refine lv_iload hx hb dX4_ways_113 (lv_at hl 0 rfl) ?_
      refine lv_iadd hx hb dX4_ways_115 ?_
      refine tI (v := 250) (by decide +kernel) ?_
      refine xa_zald (k := 250) (v := 0) hx hb hK hP 1 1 rfl rfl (by decide) (by decide +kernel) (Nat.le_of_ble_eq_true rfl) rfl dX4_ways_116 ?_
      refine lv_if_eq (tgt := 132) hx hb dX4_ways_117 (by decide) (fun _ => ?_) (fun h9 => absurd (by decide) h9)
      refine lv_iinc (v := 1) (lv' := [(6, .int 1), (5, .int 1), (4, .ref q), (3, .int (nI i)), (2, .ref now), (0, .ref um), (1, .int 100)]) hx hb dX4_ways_132 hl (k := 0) rfl (by decide +kernel) (by decide) rfl (fun ls hl => ?_)
      refine lv_goto (tgt := 94) hx hb dX4_ways_135 (by decide) ?_
      refine lv_iload hx hb dX4_ways_94 (lv_at hl 0 rfl) ?_
      refine lv_aload_n hx hb dX4_ways_96 rfl (lv_at hl 5 rfl) ?_
      refine va_get (D := (dC, dI)) (ci := 4) (v := .int 2) (C := RX4) (T := TX4) (N := 20) hx hb hts inX4 hown hK hP 0 rfl rfl 13 (by decide) (hts _ q700) (fun _ h9 => h9) rfl dX4_ways_97 ?_
      refine lv_icmp_ge (tgt := 138) hx hb dX4_ways_100 (by decide) (fun h9 => absurd h9 (by decide)) (fun _ => ?_)
      refine lv_aload_n hx hb dX4_ways_103 rfl (lv_at hl 5 rfl) ?_
      refine va_get (D := (dC, dI)) (ci := 4) (v := .ref ue) (C := RX4) (T := TX4) (N := 20) hx hb hts inX4 hown hK hP 0 rfl rfl 17 (by decide) (hts _ q704) (fun _ h9 => h9) rfl dX4_ways_104 ?_
      refine lv_sipush (v := 250) hx hb dX4_ways_107 (by decide) ?_
      refine lv_iload hx hb dX4_ways_110 (lv_at hl 1 rfl) ?_
      refine lv_imul hx hb dX4_ways_112 ?_
      refine tI (v := 250) (by decide +kernel) ?_
      refine lv_iload hx hb dX4_ways_113 (lv_at hl 0 rfl) ?_
      refine lv_iadd hx hb dX4_ways_115 ?_
      refine tI (v := 251) (by decide +kernel) ?_
      refine xa_zald (k := 251) (v := 0) hx hb hK hP 1 1 rfl rfl (by decide) (by decide +kernel) (Nat.le_of_ble_eq_true rfl) rfl dX4_ways_116 ?_
      refine lv_if_eq (tgt := 132) hx hb dX4_ways_117 (by decide) (fun _ => ?_) (fun h9 => absurd (by decide) h9)
      refine lv_iinc (v := 2) (lv' := [(6, .int 2), (5, .int 1), (4, .ref q), (3, .int (nI i)), (2, .ref now), (0, .ref um), (1, .int 100)]) hx hb dX4_ways_132 hl (k := 0) rfl (by decide +kernel) (by decide) rfl (fun ls hl => ?_)
      refine lv_goto (tgt := 94) hx hb dX4_ways_135 (by decide) ?_
      refine lv_iload hx hb dX4_ways_94 (lv_at hl 0 rfl) ?_
      refine lv_aload_n hx hb dX4_ways_96 rfl (lv_at hl 5 rfl) ?_
      refine va_get (D := (dC, dI)) (ci := 4) (v := .int 2) (C := RX4) (T := TX4) (N := 20) hx hb hts inX4 hown hK hP 0 rfl rfl 13 (by decide) (hts _ q700) (fun _ h9 => h9) rfl dX4_ways_97 ?_
      refine lv_icmp_ge (tgt := 138) hx hb dX4_ways_100 (by decide) (fun _ => ?_) (fun h9 => absurd (by decide) h9)
      refine lv_iinc (v := 2) (lv' := [(5, .int 2), (6, .int 2), (4, .ref q), (3, .int (nI i)), (2, .ref now), (0, .ref um), (1, .int 100)]) hx hb dX4_ways_138 hl (k := 1) rfl (by decide +kernel) (by decide) rfl (fun ls hl => ?_)
      refine lv_goto (tgt := 82) hx hb dX4_ways_141 (by decide) ?_
      refine lv_iload hx hb dX4_ways_82 (lv_at hl 0 rfl) ?_
      refine lv_aload_n hx hb dX4_ways_84 rfl (lv_at hl 5 rfl) ?_
      refine va_get (D := (dC, dI)) (ci := 4) (v := .int 2) (C := RX4) (T := TX4) (N := 20) hx hb hts inX4 hown hK hP 0 rfl rfl 13 (by decide) (hts _ q700) (fun _ h9 => h9) rfl dX4_ways_85 ?_
      refine lv_icmp_ge (tgt := 144) hx hb dX4_ways_88 (by decide) (fun _ => ?_) (fun h9 => absurd (by decide) h9)
      refine lv_aload hx hb dX4_ways_144 (lv_at hl 2 rfl) ?_
      refine lv_astore_n (lv' := [(2, .ref q), (5, .int 2), (6, .int 2), (4, .ref q), (3, .int (nI i)), (0, .ref um), (1, .int 100)]) hx hb dX4_ways_146 rfl hl (by decide) rfl (fun ls hl => ?_)
      have hP := vP_perm (pm_2 _ _ _ _ _) hP
      have hD := vD_perm (pm_2 _ _ _ _ _) hD
      rw [← pool_one cJ now f, ← pool_app] at hP hD
      have hl : lv_has ls 7 [(3, .int (nI i)), (2, .ref q), (0, .ref um), (1, .int 100)] := lv_sub hl [4, 0, 5, 6] rfl
      refine lv_iinc (v := nI (i + 1)) (lv' := [(3, .int (nI (i + 1))), (2, .ref q), (0, .ref um), (1, .int 100)]) hx hb dX4_ways_147 hl (k := 0) rfl (nI_1 i) (by decide) rfl (fun ls hl => ?_)
      refine lv_goto (tgt := 67) hx hb dX4_ways_150 (by decide) ?_
      rw [show 250 * (i + 1) + 250 = 250 * (i + 1 + 1) by omega]
      exact ih (i + 1) (by omega) (PL ++ [(now, f)]) q _ H locs ls (by rw [List.length_append, hLn]; rfl) hP hD hS hl
  refine lv_aload_n hx hb dX4_ways_0 rfl (lv_at hl 0 rfl) ?_
  refine lv_aload_n hx hb dX4_ways_1 rfl (lv_at hl 0 rfl) ?_
  refine va_get (D := (dC, dI)) (ci := 4) (v := .int 1) (C := RX4) (T := TX4) (N := 20) hx hb hts inX4 hown hK hP 0 rfl rfl 11 (by decide) (hts _ q698) (fun _ h9 => h9) rfl dX4_ways_2 ?_
  refine lv_if_ne (tgt := 12) hx hb dX4_ways_5 (by decide) (fun _ => ?_) (fun h9 => absurd h9 (by decide))
  refine lv_iload_n hx hb dX4_ways_12 rfl (lv_at hl 1 rfl) ?_
  refine lv_if_lt (tgt := 22) hx hb dX4_ways_13 (by decide) (fun h9 => absurd h9 (by decide)) (fun _ => ?_)
  refine lv_iload_n hx hb dX4_ways_16 rfl (lv_at hl 1 rfl) ?_
  refine lv_bipush (v := 100) hx hb dX4_ways_17 (by decide) ?_
  refine lv_icmp_le (tgt := 26) hx hb dX4_ways_19 (by decide) (fun _ => ?_) (fun h9 => absurd (by decide) h9)
  refine lv_iconst (v := 0) hx hb dX4_ways_26 (by decide) ?_
  refine va_put (D := (dC, dI)) (ci := 4) (v := .int 0) (ty := .int) (C := RX4) (T := TX4) (N := 20) hx hb hts inX4 tyX4 tyX4_ok nmX4 hown hK hP hD hS 0 rfl rfl 0 (by decide) (hts _ q687) (fun _ h9 => h9) rfl (by decide +kernel) rfl rfl (Nat.le_of_ble_eq_true rfl) dX4_ways_27 (fun H locs hP hD hS => ?_)
  have hP : va_P (dC, dI) vwCl [(um, .inr (4, [.int 0, .int 0, .ref c0, .ref c1, .ref c2, .ref c3, .int 0, .ref c4, .ref c5, .ref c6, .ref c7, .int 1, .int 1, .int 2, .int 1, .ref c8, .ref c9, .ref ue, .ref c10, .ref c11])), (ue, .inl (cZ, 62500, .inl (upd (upd (upd (upd (fun _ => 0) 0 0) 1 1) 250 0) 251 0)))] H := hP
  have hD : va_D A [(um, .inr (4, [.int 0, .int 0, .ref c0, .ref c1, .ref c2, .ref c3, .int 0, .ref c4, .ref c5, .ref c6, .ref c7, .int 1, .int 1, .int 2, .int 1, .ref c8, .ref c9, .ref ue, .ref c10, .ref c11])), (ue, .inl (cZ, 62500, .inl (upd (upd (upd (upd (fun _ => 0) 0 0) 1 1) 250 0) 251 0)))] := hD
  refine lv_aload_n hx hb dX4_ways_30 rfl (lv_at hl 0 rfl) ?_
  refine va_get (D := (dC, dI)) (ci := 4) (v := .int 0) (C := RX4) (T := TX4) (N := 20) hx hb hts inX4 hown hK hP 0 rfl rfl 0 (by decide) (hts _ q687) (fun _ h9 => h9) rfl dX4_ways_31 ?_
  refine lv_if_eq (tgt := 39) hx hb dX4_ways_34 (by decide) (fun _ => ?_) (fun h9 => absurd (by decide) h9)
  refine lv_sipush (v := 250) hx hb dX4_ways_39 (by decide) ?_
  refine xa_newa (atype := .long) (a0 := (250, .inr (.inl (fun _ => 0)))) hx hb (hts _ q144) rfl hK hP hD hS hA 2 rfl (fun _ _ => rfl) (fun _ => rfl) (by decide) (by decide +kernel) (Nat.le_of_ble_eq_true rfl) (Nat.le_of_ble_eq_true rfl) (Nat.le_of_ble_eq_true rfl) dX4_ways_42 (fun w1 H hP hD hS => ?_)
  have hP : va_P (dC, dI) vwCl [(um, .inr (4, [.int 0, .int 0, .ref c0, .ref c1, .ref c2, .ref c3, .int 0, .ref c4, .ref c5, .ref c6, .ref c7, .int 1, .int 1, .int 2, .int 1, .ref c8, .ref c9, .ref ue, .ref c10, .ref c11])), (ue, .inl (cZ, 62500, .inl (upd (upd (upd (upd (fun _ => 0) 0 0) 1 1) 250 0) 251 0))), (w1, .inl (cJ, 250, .inr (.inl (fun _ => 0))))] H := hP
  have hD : va_D A [(um, .inr (4, [.int 0, .int 0, .ref c0, .ref c1, .ref c2, .ref c3, .int 0, .ref c4, .ref c5, .ref c6, .ref c7, .int 1, .int 1, .int 2, .int 1, .ref c8, .ref c9, .ref ue, .ref c10, .ref c11])), (ue, .inl (cZ, 62500, .inl (upd (upd (upd (upd (fun _ => 0) 0 0) 1 1) 250 0) 251 0))), (w1, .inl (cJ, 250, .inr (.inl (fun _ => 0))))] := hD
  refine lv_astore_n (lv' := [(2, .ref w1), (0, .ref um), (1, .int 100)]) hx hb dX4_ways_44 rfl hl (by decide) rfl (fun ls hl => ?_)
  refine lv_iconst (v := 0) hx hb dX4_ways_45 (by decide) ?_
  refine lv_istore_n (lv' := [(3, .int 0), (2, .ref w1), (0, .ref um), (1, .int 100)]) hx hb dX4_ways_46 rfl hl (by decide) rfl (fun ls hl => ?_)
  refine lv_iload_n hx hb dX4_ways_47 rfl (lv_at hl 0 rfl) ?_
  refine lv_aload_n hx hb dX4_ways_48 rfl (lv_at hl 2 rfl) ?_
  refine va_get (D := (dC, dI)) (ci := 4) (v := .int 1) (C := RX4) (T := TX4) (N := 20) hx hb hts inX4 hown hK hP 0 rfl rfl 14 (by decide) (hts _ q701) (fun _ h9 => h9) rfl dX4_ways_49 ?_
  refine lv_icmp_ge (tgt := 65) hx hb dX4_ways_52 (by decide) (fun h9 => absurd h9 (by decide)) (fun _ => ?_)
  refine lv_aload_n hx hb dX4_ways_55 rfl (lv_at hl 1 rfl) ?_
  refine lv_iload_n hx hb dX4_ways_56 rfl (lv_at hl 0 rfl) ?_
  refine lv_lconst (v := 1) hx hb dX4_ways_57 (by decide) ?_
  refine xa_last (k := 0) (w1 := [(um, .inr (4, [.int 0, .int 0, .ref c0, .ref c1, .ref c2, .ref c3, .int 0, .ref c4, .ref c5, .ref c6, .ref c7, .int 1, .int 1, .int 2, .int 1, .ref c8, .ref c9, .ref ue, .ref c10, .ref c11])), (ue, .inl (cZ, 62500, .inl (upd (upd (upd (upd (fun _ => 0) 0 0) 1 1) 250 0) 251 0))), (w1, .inl (cJ, 250, .inr (.inl (vp_updL (fun _ => 0) 0 1))))]) hx hb hK hP hD hS 2 2 rfl rfl (by decide) (by decide +kernel) (Nat.le_of_ble_eq_true rfl) rfl dX4_ways_58 (fun H locs hP hD hS => ?_)
  refine lv_iinc (v := 1) (lv' := [(3, .int 1), (2, .ref w1), (0, .ref um), (1, .int 100)]) hx hb dX4_ways_59 hl (k := 0) rfl (by decide +kernel) (by decide) rfl (fun ls hl => ?_)
  refine lv_goto (tgt := 47) hx hb dX4_ways_62 (by decide) ?_
  refine lv_iload_n hx hb dX4_ways_47 rfl (lv_at hl 0 rfl) ?_
  refine lv_aload_n hx hb dX4_ways_48 rfl (lv_at hl 2 rfl) ?_
  refine va_get (D := (dC, dI)) (ci := 4) (v := .int 1) (C := RX4) (T := TX4) (N := 20) hx hb hts inX4 hown hK hP 0 rfl rfl 14 (by decide) (hts _ q701) (fun _ h9 => h9) rfl dX4_ways_49 ?_
  refine lv_icmp_ge (tgt := 65) hx hb dX4_ways_52 (by decide) (fun _ => ?_) (fun h9 => absurd (by decide) h9)
  refine lv_iconst (v := 0) hx hb dX4_ways_65 (by decide) ?_
  refine lv_istore_n (lv' := [(3, .int 0), (2, .ref w1), (0, .ref um), (1, .int 100)]) hx hb dX4_ways_66 rfl hl (by decide) rfl (fun ls hl => ?_)
  have hl : lv_has ls 7 [(3, .int 0), (2, .ref w1), (0, .ref um), (1, .int 100)] := lv_sub hl [0, 1, 2, 3] rfl
  exact key 100 0 rfl [] w1 _ H locs ls rfl hP hD hS hl
