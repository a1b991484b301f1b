set_option maxHeartbeats 4000000 in
set_option maxRecDepth 100000 in
theorem kX4_explore_0 (l : Launch) (hfl : l.stackTraces = false) (dC : Nat → ClassId) (dI : Nat → Nat → Nat) (cI cZ cJ cD : ClassId) (a0 a1 a2 a3 a4 a5 a6 a7 a8 a9 a10 a11 a12 a13 : Nat) (sz : Nat) : Met l yX4_explore (ws_ yX4_explore cX4_explore 1 (some .int)) (rm_ 5 0 0) (PC (dC, dI) (tyL cI cZ cJ cD) [(a0, .inr (4, [.int 0, .int 0, .ref a1, .ref a2, .ref a3, .ref a4, .int 0, .ref a5, .ref a6, .ref a7, .ref a8, .int 0, .int 0, .int 0, .int 0, .ref a9, .ref a10, .ref a11, .ref a12, .ref a13])), (a9, .inl (cI, 250, .inl (fun _ => 0))), (a10, .inl (cI, 250, .inl (fun _ => 0))), (a11, .inl (cZ, 62500, .inl (fun _ => 0)))] sz [.ref a0]) (QR (dC, dI) [(a0, .inr (4, [.int 0, .int 0, .ref a1, .ref a2, .ref a3, .ref a4, .int 0, .ref a5, .ref a6, .ref a7, .ref a8, .int 1, .int 1, .int 2, .int 1, .ref a9, .ref a10, .ref a11, .ref a12, .ref a13])), (a9, .inl (cI, 250, .inl (upd (upd (fun _ => 0) 0 0) 1 1))), (a10, .inl (cI, 250, .inl (upd (upd (fun _ => 0) 0 0) 1 1))), (a11, .inl (cZ, 62500, .inl (upd (upd (upd (upd (fun _ => 0) 0 0) 1 1) 250 0) 251 0)))] (some (.int 2)) (va_A [(a0, .inr (4, [.int 0, .int 0, .ref a1, .ref a2, .ref a3, .ref a4, .int 0, .ref a5, .ref a6, .ref a7, .ref a8, .int 0, .int 0, .int 0, .int 0, .ref a9, .ref a10, .ref a11, .ref a12, .ref a13])), (a9, .inl (cI, 250, .inl (fun _ => 0))), (a10, .inl (cI, 250, .inl (fun _ => 0))), (a11, .inl (cZ, 62500, .inl (fun _ => 0)))] sz)) 0 0 (va_A [(a0, .inr (4, [.int 0, .int 0, .ref a1, .ref a2, .ref a3, .ref a4, .int 0, .ref a5, .ref a6, .ref a7, .ref a8, .int 0, .int 0, .int 0, .int 0, .ref a9, .ref a10, .ref a11, .ref a12, .ref a13])), (a9, .inl (cI, 250, .inl (fun _ => 0))), (a10, .inl (cI, 250, .inl (fun _ => 0))), (a11, .inl (cZ, 62500, .inl (fun _ => 0)))] sz) := by
  refine xm_of (QQ := QR (dC, dI) [(a0, .inr (4, [.int 0, .int 0, .ref a1, .ref a2, .ref a3, .ref a4, .int 0, .ref a5, .ref a6, .ref a7, .ref a8, .int 1, .int 1, .int 2, .int 1, .ref a9, .ref a10, .ref a11, .ref a12, .ref a13])), (a9, .inl (cI, 250, .inl (upd (upd (fun _ => 0) 0 0) 1 1))), (a10, .inl (cI, 250, .inl (upd (upd (fun _ => 0) 0 0) 1 1))), (a11, .inl (cZ, 62500, .inl (upd (upd (upd (upd (fun _ => 0) 0 0) 1 1) 250 0) 251 0)))] (some (.int 2))) (by decide +kernel) (Nat.le_of_ble_eq_true rfl) ?_
  intro p e s m below meth c A ls hx hb hr hml hown hts hlocks hin hK hP hD hE hA hS hl
  have hown : s.vm.findClass RX4 = some m.cls := hown
  have hl : lv_has ls 1 [(0, .ref a0)] := hl
  have hP : va_P (dC, dI) vwCl [(a0, .inr (4, [.int 0, .int 0, .ref a1, .ref a2, .ref a3, .ref a4, .int 0, .ref a5, .ref a6, .ref a7, .ref a8, .int 0, .int 0, .int 0, .int 0, .ref a9, .ref a10, .ref a11, .ref a12, .ref a13])), (a9, .inl (cI, 250, .inl (fun _ => 0))), (a10, .inl (cI, 250, .inl (fun _ => 0))), (a11, .inl (cZ, 62500, .inl (fun _ => 0)))] s.heap := hP
  refine lv_aload_n hx hb dX4_explore_0 rfl (lv_at hl 0 rfl) ?_
  refine lv_iconst (v := 0) hx hb dX4_explore_1 (by decide) ?_
  refine va_put (D := (dC, dI)) (ci := 4) (v := .int 0) (ty := .int) (C := RX4) (T := TX4) (N := 20) hx hb hts inX4 tyX4 tyX4_ok nmX4 hown hK hP hD hS 0 rfl rfl 0 (by decide) (hts _ q687) (fun _ h9 => h9) rfl (by decide +kernel) rfl rfl (Nat.le_of_ble_eq_true rfl) dX4_explore_2 (fun H locs hP hD hS => ?_)
  have hP : va_P (dC, dI) vwCl [(a0, .inr (4, [.int 0, .int 0, .ref a1, .ref a2, .ref a3, .ref a4, .int 0, .ref a5, .ref a6, .ref a7, .ref a8, .int 0, .int 0, .int 0, .int 0, .ref a9, .ref a10, .ref a11, .ref a12, .ref a13])), (a9, .inl (cI, 250, .inl (fun _ => 0))), (a10, .inl (cI, 250, .inl (fun _ => 0))), (a11, .inl (cZ, 62500, .inl (fun _ => 0)))] H := hP
  have hD : va_D A [(a0, .inr (4, [.int 0, .int 0, .ref a1, .ref a2, .ref a3, .ref a4, .int 0, .ref a5, .ref a6, .ref a7, .ref a8, .int 0, .int 0, .int 0, .int 0, .ref a9, .ref a10, .ref a11, .ref a12, .ref a13])), (a9, .inl (cI, 250, .inl (fun _ => 0))), (a10, .inl (cI, 250, .inl (fun _ => 0))), (a11, .inl (cZ, 62500, .inl (fun _ => 0)))] := hD
  refine lv_aload_n hx hb dX4_explore_5 rfl (lv_at hl 0 rfl) ?_
  refine va_get (D := (dC, dI)) (ci := 4) (v := .int 0) (C := RX4) (T := TX4) (N := 20) hx hb hts inX4 hown hK hP 0 rfl rfl 11 (by decide) (hts _ q698) (fun _ h9 => h9) rfl dX4_explore_6 ?_
  refine lv_if_ne (tgt := 16) hx hb dX4_explore_9 (by decide) (fun h9 => absurd (by decide) h9) (fun _ => ?_)
  refine lv_aload_n hx hb dX4_explore_12 rfl (lv_at hl 0 rfl) ?_
  refine xc_V (b := a0) (wc := [(a0, .inr (4, [.int 0, .int 0, .ref a1, .ref a2, .ref a3, .ref a4, .int 0, .ref a5, .ref a6, .ref a7, .ref a8, .int 0, .int 0, .int 0, .int 0, .ref a9, .ref a10, .ref a11, .ref a12, .ref a13])), (a9, .inl (cI, 250, .inl (fun _ => 0))), (a10, .inl (cI, 250, .inl (fun _ => 0))), (a11, .inl (cZ, 62500, .inl (fun _ => 0)))]) (As := []) (rest := []) (wr := []) ⟨hx, hb, hml, hown, hts⟩ (kX4_find_0 l hfl dC dI cI cZ cJ cD a0 a1 a2 a3 a4 a5 a6 a7 a8 a9 a10 a11 a12 a13 _) q803 okX4_find hP hD hK hE hS hA [0, 1, 2, 3] [] rfl rfl (by decide) (by decide) (by decide) (ci := 4) rfl 0 rfl rfl rfl hl.1 rfl (Nat.le_of_ble_eq_true rfl) ⟨rfl, rfl⟩ ⟨Nat.le_of_ble_eq_true rfl, Nat.le_of_ble_eq_true rfl⟩ ⟨Nat.le_of_ble_eq_true rfl, Nat.le_of_ble_eq_true rfl⟩ dX4_explore_13 (fun H locs hP hD hS => ?_)
  have hP : va_P (dC, dI) vwCl [(a0, .inr (4, [.int 0, .int 0, .ref a1, .ref a2, .ref a3, .ref a4, .int 0, .ref a5, .ref a6, .ref a7, .ref a8, .int 1, .int 1, .int 2, .int 1, .ref a9, .ref a10, .ref a11, .ref a12, .ref a13])), (a9, .inl (cI, 250, .inl (upd (upd (fun _ => 0) 0 0) 1 1))), (a10, .inl (cI, 250, .inl (upd (upd (fun _ => 0) 0 0) 1 1))), (a11, .inl (cZ, 62500, .inl (upd (upd (upd (upd (fun _ => 0) 0 0) 1 1) 250 0) 251 0)))] H := hP
  have hD : va_D A [(a0, .inr (4, [.int 0, .int 0, .ref a1, .ref a2, .ref a3, .ref a4, .int 0, .ref a5, .ref a6, .ref a7, .ref a8, .int 1, .int 1, .int 2, .int 1, .ref a9, .ref a10, .ref a11, .ref a12, .ref a13])), (a9, .inl (cI, 250, .inl (upd (upd (fun _ => 0) 0 0) 1 1))), (a10, .inl (cI, 250, .inl (upd (upd (fun _ => 0) 0 0) 1 1))), (a11, .inl (cZ, 62500, .inl (upd (upd (upd (upd (fun _ => 0) 0 0) 1 1) 250 0) 251 0)))] := hD
  refine W.eq (g2 := F0 m 16 ls []) rfl ?_
  refine lv_aload_n hx hb dX4_explore_16 rfl (lv_at hl 0 rfl) ?_
  refine va_get (D := (dC, dI)) (ci := 4) (v := .int 2) (C := RX4) (T := TX4) (N := 20) hx hb hts inX4 hown hK hP 0 rfl rfl 13 (by decide) (hts _ q700) (fun _ h9 => h9) rfl dX4_explore_17 ?_
  exact xr_i hx hb hr hlocks hP hD hS [0, 1, 2, 3] rfl (by decide) (Nat.le_of_ble_eq_true rfl) (Nat.le_of_ble_eq_true rfl) dX4_explore_20
set_option maxHeartbeats 4000000 in
set_option maxRecDepth 100000 in
theorem kX3_isExplored_0 (l : Launch) (hfl : l.stackTraces = false) (dC : Nat → ClassId) (dI : Nat → Nat → Nat) (cI cZ cJ cD : ClassId) (a0 a1 a2 a3 : Nat) (sz : Nat) : Met l yX3_isExplored (ws_ yX3_isExplored cX3_isExplored 1 (some .boolean)) (rm_ 1 0 0) (PC (dC, dI) (tyL cI cZ cJ cD) [(a0, .inr (3, [.ref a1, .ref a2, .ref a3, .int 0]))] sz [.ref a0]) (QR (dC, dI) [(a0, .inr (3, [.ref a1, .ref a2, .ref a3, .int 0]))] (some (.int 0)) (va_A [(a0, .inr (3, [.ref a1, .ref a2, .ref a3, .int 0]))] sz)) 0 0 (va_A [(a0, .inr (3, [.ref a1, .ref a2, .ref a3, .int 0]))] sz) := by
  refine xm_of (QQ := QR (dC, dI) [(a0, .inr (3, [.ref a1, .ref a2, .ref a3, .int 0]))] (some (.int 0))) (by decide +kernel) (Nat.le_of_ble_eq_true rfl) ?_
  intro p e s m below meth c A ls hx hb hr hml hown hts hlocks hin hK hP hD hE hA hS hl
  have hown : s.vm.findClass RX3 = some m.cls := hown
  have hl : lv_has ls 1 [(0, .ref a0)] := hl
  have hP : va_P (dC, dI) vwCl [(a0, .inr (3, [.ref a1, .ref a2, .ref a3, .int 0]))] s.heap := hP
  refine lv_aload_n hx hb dX3_isExplored_0 rfl (lv_at hl 0 rfl) ?_
  refine va_get (D := (dC, dI)) (ci := 3) (v := .int 0) (C := RX3) (T := TX3) (N := 4) hx hb hts inX3 hown hK hP 0 rfl rfl 3 (by decide) (hts _ q167) (fun _ h9 => h9) rfl dX3_isExplored_1 ?_
  exact xr_z hx hb hr hlocks hP hD hS [0] rfl (by decide) rfl (Nat.le_of_ble_eq_true rfl) (Nat.le_of_ble_eq_true rfl) dX3_isExplored_4
set_option maxHeartbeats 4000000 in
set_option maxRecDepth 100000 in
theorem kX4_isExplored_0 (l : Launch) (hfl : l.stackTraces = false) (dC : Nat → ClassId) (dI : Nat → Nat → Nat) (cI cZ cJ cD : ClassId) (a0 a1 a2 a3 a4 a5 a6 a7 a8 a9 a10 a11 a12 a13 : Nat) (sz : Nat) : Met l yX4_isExplored (ws_ yX4_isExplored cX4_isExplored 1 (some .boolean)) (rm_ 1 0 0) (PC (dC, dI) (tyL cI cZ cJ cD) [(a0, .inr (4, [.int 0, .int 0, .ref a1, .ref a2, .ref a3, .ref a4, .int 0, .ref a5, .ref a6, .ref a7, .ref a8, .int 0, .int 0, .int 0, .int 0, .ref a9, .ref a10, .ref a11, .ref a12, .ref a13]))] sz [.ref a0]) (QR (dC, dI) [(a0, .inr (4, [.int 0, .int 0, .ref a1, .ref a2, .ref a3, .ref a4, .int 0, .ref a5, .ref a6, .ref a7, .ref a8, .int 0, .int 0, .int 0, .int 0, .ref a9, .ref a10, .ref a11, .ref a12, .ref a13]))] (some (.int 0)) (va_A [(a0, .inr (4, [.int 0, .int 0, .ref a1, .ref a2, .ref a3, .ref a4, .int 0, .ref a5, .ref a6, .ref a7, .ref a8, .int 0, .int 0, .int 0, .int 0, .ref a9, .ref a10, .ref a11, .ref a12, .ref a13]))] sz)) 0 0 (va_A [(a0, .inr (4, [.int 0, .int 0, .ref a1, .ref a2, .ref a3, .ref a4, .int 0, .ref a5, .ref a6, .ref a7, .ref a8, .int 0, .int 0, .int 0, .int 0, .ref a9, .ref a10, .ref a11, .ref a12, .ref a13]))] sz) := by
  refine xm_of (QQ := QR (dC, dI) [(a0, .inr (4, [.int 0, .int 0, .ref a1, .ref a2, .ref a3, .ref a4, .int 0, .ref a5, .ref a6, .ref a7, .ref a8, .int 0, .int 0, .int 0, .int 0, .ref a9, .ref a10, .ref a11, .ref a12, .ref a13]))] (some (.int 0))) (by decide +kernel) (Nat.le_of_ble_eq_true rfl) ?_
  intro p e s m below meth c A ls hx hb hr hml hown hts hlocks hin hK hP hD hE hA hS hl
  have hown : s.vm.findClass RX4 = some m.cls := hown
  have hl : lv_has ls 1 [(0, .ref a0)] := hl
  have hP : va_P (dC, dI) vwCl [(a0, .inr (4, [.int 0, .int 0, .ref a1, .ref a2, .ref a3, .ref a4, .int 0, .ref a5, .ref a6, .ref a7, .ref a8, .int 0, .int 0, .int 0, .int 0, .ref a9, .ref a10, .ref a11, .ref a12, .ref a13]))] s.heap := hP
  refine lv_aload_n hx hb dX4_isExplored_0 rfl (lv_at hl 0 rfl) ?_
  refine lv_iconst (v := 0) hx hb dX4_isExplored_1 (by decide) ?_
  refine va_put (D := (dC, dI)) (ci := 4) (v := .int 0) (ty := .int) (C := RX4) (T := TX4) (N := 20) hx hb hts inX4 tyX4 tyX4_ok nmX4 hown hK hP hD hS 0 rfl rfl 0 (by decide) (hts _ q687) (fun _ h9 => h9) rfl (by decide +kernel) rfl rfl (Nat.le_of_ble_eq_true rfl) dX4_isExplored_2 (fun H locs hP hD hS => ?_)
  have hP : va_P (dC, dI) vwCl [(a0, .inr (4, [.int 0, .int 0, .ref a1, .ref a2, .ref a3, .ref a4, .int 0, .ref a5, .ref a6, .ref a7, .ref a8, .int 0, .int 0, .int 0, .int 0, .ref a9, .ref a10, .ref a11, .ref a12, .ref a13]))] H := hP
  have hD : va_D A [(a0, .inr (4, [.int 0, .int 0, .ref a1, .ref a2, .ref a3, .ref a4, .int 0, .ref a5, .ref a6, .ref a7, .ref a8, .int 0, .int 0, .int 0, .int 0, .ref a9, .ref a10, .ref a11, .ref a12, .ref a13]))] := hD
  refine lv_aload_n hx hb dX4_isExplored_5 rfl (lv_at hl 0 rfl) ?_
  refine va_get (D := (dC, dI)) (ci := 4) (v := .int 0) (C := RX4) (T := TX4) (N := 20) hx hb hts inX4 hown hK hP 0 rfl rfl 11 (by decide) (hts _ q698) (fun _ h9 => h9) rfl dX4_isExplored_6 ?_
  exact xr_z hx hb hr hlocks hP hD hS [0] rfl (by decide) rfl (Nat.le_of_ble_eq_true rfl) (Nat.le_of_ble_eq_true rfl) dX4_isExplored_9
set_option maxHeartbeats 4000000 in
set_option maxRecDepth 100000 in
theorem kX3_requireExploration_0 (l : Launch) (hfl : l.stackTraces = false) (dC : Nat → ClassId) (dI : Nat → Nat → Nat) (cI cZ cJ cD : ClassId) (a0 a1 a2 a3 : Nat) (sz : Nat) : vx_Met l yX3_requireExploration (ws_ yX3_requireExploration cX3_requireExploration 1 none) (rm_ 1 1 6) (PC (dC, dI) (tyL cI cZ cJ cD) [(a0, .inr (3, [.ref a1, .ref a2, .ref a3, .int 0]))] sz [.ref a0]) QN (XR nISE (va_A [(a0, .inr (3, [.ref a1, .ref a2, .ref a3, .int 0]))] sz)) 1 6 (va_A [(a0, .inr (3, [.ref a1, .ref a2, .ref a3, .int 0]))] sz) := by
  refine xm_x (cls := nISE) (by decide +kernel) (Nat.le_of_ble_eq_true rfl) ?_
  intro p e s m below meth c A ls hx hb hr hml hown hts hlocks hno hK hP hD hE hA hS hl
  have hown : s.vm.findClass RX3 = some m.cls := hown
  have hl : lv_has ls 1 [(0, .ref a0)] := hl
  have hP : va_P (dC, dI) vwCl [(a0, .inr (3, [.ref a1, .ref a2, .ref a3, .int 0]))] s.heap := hP
  refine lv_aload_n hx hb dX3_requireExploration_0 rfl (lv_at hl 0 rfl) ?_
  refine va_get (D := (dC, dI)) (ci := 3) (v := .int 0) (C := RX3) (T := TX3) (N := 4) hx hb hts inX3 hown hK hP 0 rfl rfl 3 (by decide) (hts _ q167) (fun _ h9 => h9) rfl dX3_requireExploration_1 ?_
  refine lv_if_ne (tgt := 17) hx hb dX3_requireExploration_4 (by decide) (fun h9 => absurd (by decide) h9) (fun _ => ?_)
  exact xx_throw (cls := nISE) hx hb hfl hown hts tok_ISE q466 q10 hE.2.2.cISE (hE.2.2.st.2.2.2.2.2) hE hS (hl.1.trans hml.symm) hno hlocks dX3_requireExploration_7 dX3_requireExploration_10 dX3_requireExploration_11 dX3_requireExploration_13 dX3_requireExploration_16 (Nat.le_of_ble_eq_true rfl) (Nat.le_of_ble_eq_true rfl) (Nat.le_of_ble_eq_true rfl) (Nat.le_of_ble_eq_true rfl) (Nat.le_of_ble_eq_true rfl) (Nat.le_of_ble_eq_true rfl)
set_option maxHeartbeats 4000000 in
set_option maxRecDepth 100000 in
theorem kX3_isComplete_0 (l : Launch) (hfl : l.stackTraces = false) (dC : Nat → ClassId) (dI : Nat → Nat → Nat) (cI cZ cJ cD : ClassId) (a0 a1 a2 a3 : Nat) (sz : Nat) : vx_Met l yX3_isComplete (ws_ yX3_isComplete cX3_isComplete 1 (some .boolean)) (rm_ 2 1 6) (PC (dC, dI) (tyL cI cZ cJ cD) [(a0, .inr (3, [.ref a1, .ref a2, .ref a3, .int 0]))] sz [.ref a0]) QN (XR nISE (va_A [(a0, .inr (3, [.ref a1, .ref a2, .ref a3, .int 0]))] sz)) 1 6 (va_A [(a0, .inr (3, [.ref a1, .ref a2, .ref a3, .int 0]))] sz) := by
  refine xm_x (cls := nISE) (by decide +kernel) (Nat.le_of_ble_eq_true rfl) ?_
  intro p e s m below meth c A ls hx hb hr hml hown hts hlocks hno hK hP hD hE hA hS hl
  have hown : s.vm.findClass RX3 = some m.cls := hown
  have hl : lv_has ls 1 [(0, .ref a0)] := hl
  have hP : va_P (dC, dI) vwCl [(a0, .inr (3, [.ref a1, .ref a2, .ref a3, .int 0]))] s.heap := hP
  refine lv_aload_n hx hb dX3_isComplete_0 rfl (lv_at hl 0 rfl) ?_
  refine xx_V (b := a0) (wc := [(a0, .inr (3, [.ref a1, .ref a2, .ref a3, .int 0]))]) (As := []) (rest := []) (wr := []) ⟨hx, hb, hml, hown, hts⟩ (kX3_requireExploration_0 l hfl dC dI cI cZ cJ cD a0 a1 a2 a3 _) q556 okX3_requireExploration hP hD hK hE hS hA [0] [] rfl rfl (by decide) (by decide) (by decide) (ci := 3) rfl 0 rfl rfl rfl hl.1 rfl (Nat.le_of_ble_eq_true rfl) ⟨rfl, rfl⟩ ⟨Nat.le_of_ble_eq_true rfl, Nat.le_of_ble_eq_true rfl⟩ ⟨Nat.le_of_ble_eq_true rfl, Nat.le_of_ble_eq_true rfl⟩ dX3_isComplete_1 (fun q9 ce H locs h1 h2 h3 hP hD hS => ?_)
  exact xx_out hno hlocks h1 h2 h3 hS (Nat.le_of_ble_eq_true rfl) (Nat.le_of_ble_eq_true rfl)
set_option maxHeartbeats 4000000 in
set_option maxRecDepth 100000 in
theorem kL_isComplete_0 (l : Launch) (hfl : l.stackTraces = false) (dC : Nat → ClassId) (dI : Nat → Nat → Nat) (cI cZ cJ cD : ClassId) (a0 a1 a2 a3 a4 : Nat) (sz : Nat) : Met l yL_isComplete (wh_ yL_isComplete cL_isComplete 3 (some .int) [(0, 15, 18, 15)]) (rm_ 3 1 6) (PC (dC, dI) (tyL cI cZ cJ cD) [(a0, .inr (3, [.ref a2, .ref a3, .ref a4, .int 0]))] sz [.ref a0, .ref a1]) (QR (dC, dI) [] (some (.int 1)) (va_A [(a0, .inr (3, [.ref a2, .ref a3, .ref a4, .int 0]))] sz)) 1 6 (va_A [(a0, .inr (3, [.ref a2, .ref a3, .ref a4, .int 0]))] sz) := by
  refine xm_h (QQ := QR (dC, dI) [] (some (.int 1))) (by decide +kernel) (Nat.le_of_ble_eq_true rfl) ?_
  intro p e s m below meth c A ls hx hb hr hml hown hts hlocks htab hK hP hD hE hA hS hl
  have hown : s.vm.findClass RL = some m.cls := hown
  have hl : lv_has ls 3 [(0, .ref a0), (1, .ref a1)] := hl
  have hP : va_P (dC, dI) vwCl [(a0, .inr (3, [.ref a2, .ref a3, .ref a4, .int 0]))] s.heap := hP
  refine lv_aload_n hx hb dL_isComplete_0 rfl (lv_at hl 1 rfl) ?_
  refine lv_iconst (v := 0) hx hb dL_isComplete_1 (by decide) ?_
  refine lv_aload_n hx hb dL_isComplete_2 rfl (lv_at hl 0 rfl) ?_
  refine xx_V (b := a0) (wc := [(a0, .inr (3, [.ref a2, .ref a3, .ref a4, .int 0]))]) (As := []) (rest := [.int 0, .ref a1]) (wr := []) ⟨hx, hb, hml, hown, hts⟩ (kX3_isComplete_0 l hfl dC dI cI cZ cJ cD a0 a2 a3 a4 _) q552 okX3_isComplete hP hD hK hE hS hA [0] [] rfl rfl (by decide) (by decide) (by decide) (ci := 3) rfl 0 rfl rfl rfl hl.1 rfl (Nat.le_of_ble_eq_true rfl) ⟨rfl, rfl⟩ ⟨Nat.le_of_ble_eq_true rfl, Nat.le_of_ble_eq_true rfl⟩ ⟨Nat.le_of_ble_eq_true rfl, Nat.le_of_ble_eq_true rfl⟩ dL_isComplete_3 (fun q9 ce H locs h1 h2 h3 hP hD hS => ?_)
  refine vx_catch (own := RL) (name := nISE) (E := nISE) hown [] ⟨0, 15, 18, 15⟩ [] htab (fun z hz => by cases hz) (by decide) (by decide) (hts _ q392) (hE.2.2.cISE.use rfl) h1 h2 h3 ?_
  refine W.eq (g2 := F0 m 18 ls [.ref q9]) rfl ?_
  refine lv_astore_n (lv' := [(2, .ref q9), (0, .ref a0), (1, .ref a1)]) hx hb dL_isComplete_18 rfl hl (by decide) rfl (fun ls hl => ?_)
  refine lv_iconst (v := 1) hx hb dL_isComplete_19 (by decide) ?_
  exact xr_i hx hb hr hlocks hP hD hS [] rfl (by decide) (Nat.le_of_ble_eq_true rfl) (Nat.le_of_ble_eq_true rfl) dL_isComplete_20
set_option maxHeartbeats 4000000 in
set_option maxRecDepth 100000 in
theorem kX4_asks_0 (l : Launch) (hfl : l.stackTraces = false) (dC : Nat → ClassId) (dI : Nat → Nat → Nat) (cI cZ cJ cD : ClassId) (a0 a1 a2 a3 a4 a5 a6 a7 a8 a9 a10 a11 a12 a13 : Nat) (sz : Nat) : Met l yX4_asks (ws_ yX4_asks cX4_asks 1 (some .boolean)) (rm_ 1 0 0) (PC (dC, dI) (tyL cI cZ cJ cD) [(a0, .inr (4, [.int 0, .int 0, .ref a1, .ref a2, .ref a3, .ref a4, .int 0, .ref a5, .ref a6, .ref a7, .ref a8, .int 0, .int 0, .int 0, .int 0, .ref a9, .ref a10, .ref a11, .ref a12, .ref a13]))] sz [.ref a0]) (QR (dC, dI) [(a0, .inr (4, [.int 1, .int 0, .ref a1, .ref a2, .ref a3, .ref a4, .int 0, .ref a5, .ref a6, .ref a7, .ref a8, .int 0, .int 0, .int 0, .int 0, .ref a9, .ref a10, .ref a11, .ref a12, .ref a13]))] (some (.int 0)) (va_A [(a0, .inr (4, [.int 0, .int 0, .ref a1, .ref a2, .ref a3, .ref a4, .int 0, .ref a5, .ref a6, .ref a7, .ref a8, .int 0, .int 0, .int 0, .int 0, .ref a9, .ref a10, .ref a11, .ref a12, .ref a13]))] sz)) 0 0 (va_A [(a0, .inr (4, [.int 0, .int 0, .ref a1, .ref a2, .ref a3, .ref a4, .int 0, .ref a5, .ref a6, .ref a7, .ref a8, .int 0, .int 0, .int 0, .int 0, .ref a9, .ref a10, .ref a11, .ref a12, .ref a13]))] sz) := by
  refine xm_of (QQ := QR (dC, dI) [(a0, .inr (4, [.int 1, .int 0, .ref a1, .ref a2, .ref a3, .ref a4, .int 0, .ref a5, .ref a6, .ref a7, .ref a8, .int 0, .int 0, .int 0, .int 0, .ref a9, .ref a10, .ref a11, .ref a12, .ref a13]))] (some (.int 0))) (by decide +kernel) (Nat.le_of_ble_eq_true rfl) ?_
  intro p e s m below meth c A ls hx hb hr hml hown hts hlocks hin hK hP hD hE hA hS hl
  have hown : s.vm.findClass RX4 = some m.cls := hown
  have hl : lv_has ls 1 [(0, .ref a0)] := hl
  have hP : va_P (dC, dI) vwCl [(a0, .inr (4, [.int 0, .int 0, .ref a1, .ref a2, .ref a3, .ref a4, .int 0, .ref a5, .ref a6, .ref a7, .ref a8, .int 0, .int 0, .int 0, .int 0, .ref a9, .ref a10, .ref a11, .ref a12, .ref a13]))] s.heap := hP
  refine lv_aload_n hx hb dX4_asks_0 rfl (lv_at hl 0 rfl) ?_
  refine lv_aload_n hx hb dX4_asks_1 rfl (lv_at hl 0 rfl) ?_
  refine va_get (D := (dC, dI)) (ci := 4) (v := .int 0) (C := RX4) (T := TX4) (N := 20) hx hb hts inX4 hown hK hP 0 rfl rfl 11 (by decide) (hts _ q698) (fun _ h9 => h9) rfl dX4_asks_2 ?_
  refine lv_if_eq (tgt := 12) hx hb dX4_asks_5 (by decide) (fun _ => ?_) (fun h9 => absurd (by decide) h9)
  refine lv_iconst (v := 1) hx hb dX4_asks_12 (by decide) ?_
  refine va_put (D := (dC, dI)) (ci := 4) (v := .int 1) (ty := .int) (C := RX4) (T := TX4) (N := 20) hx hb hts inX4 tyX4 tyX4_ok nmX4 hown hK hP hD hS 0 rfl rfl 0 (by decide) (hts _ q687) (fun _ h9 => h9) rfl (by decide +kernel) rfl rfl (Nat.le_of_ble_eq_true rfl) dX4_asks_13 (fun H locs hP hD hS => ?_)
  have hP : va_P (dC, dI) vwCl [(a0, .inr (4, [.int 1, .int 0, .ref a1, .ref a2, .ref a3, .ref a4, .int 0, .ref a5, .ref a6, .ref a7, .ref a8, .int 0, .int 0, .int 0, .int 0, .ref a9, .ref a10, .ref a11, .ref a12, .ref a13]))] H := hP
  have hD : va_D A [(a0, .inr (4, [.int 1, .int 0, .ref a1, .ref a2, .ref a3, .ref a4, .int 0, .ref a5, .ref a6, .ref a7, .ref a8, .int 0, .int 0, .int 0, .int 0, .ref a9, .ref a10, .ref a11, .ref a12, .ref a13]))] := hD
  refine lv_aload_n hx hb dX4_asks_16 rfl (lv_at hl 0 rfl) ?_
  refine va_get (D := (dC, dI)) (ci := 4) (v := .int 0) (C := RX4) (T := TX4) (N := 20) hx hb hts inX4 hown hK hP 0 rfl rfl 11 (by decide) (hts _ q698) (fun _ h9 => h9) rfl dX4_asks_17 ?_
  exact xr_z hx hb hr hlocks hP hD hS [0] rfl (by decide) rfl (Nat.le_of_ble_eq_true rfl) (Nat.le_of_ble_eq_true rfl) dX4_asks_20
set_option maxHeartbeats 4000000 in
set_option maxRecDepth 100000 in
theorem kX4_isComplete_0 (l : Launch) (hfl : l.stackTraces = false) (dC : Nat → ClassId) (dI : Nat → Nat → Nat) (cI cZ cJ cD : ClassId) (a0 a1 a2 a3 a4 a5 a6 a7 a8 a9 a10 a11 a12 a13 : Nat) (sz : Nat) : Met l yX4_isComplete (ws_ yX4_isComplete cX4_isComplete 1 (some .boolean)) (rm_ 2 0 0) (PC (dC, dI) (tyL cI cZ cJ cD) [(a0, .inr (4, [.int 0, .int 0, .ref a1, .ref a2, .ref a3, .ref a4, .int 0, .ref a5, .ref a6, .ref a7, .ref a8, .int 0, .int 0, .int 0, .int 0, .ref a9, .ref a10, .ref a11, .ref a12, .ref a13]))] sz [.ref a0]) (QR (dC, dI) [(a0, .inr (4, [.int 1, .int 0, .ref a1, .ref a2, .ref a3, .ref a4, .int 0, .ref a5, .ref a6, .ref a7, .ref a8, .int 0, .int 0, .int 0, .int 0, .ref a9, .ref a10, .ref a11, .ref a12, .ref a13]))] (some (.int 0)) (va_A [(a0, .inr (4, [.int 0, .int 0, .ref a1, .ref a2, .ref a3, .ref a4, .int 0, .ref a5, .ref a6, .ref a7, .ref a8, .int 0, .int 0, .int 0, .int 0, .ref a9, .ref a10, .ref a11, .ref a12, .ref a13]))] sz)) 0 0 (va_A [(a0, .inr (4, [.int 0, .int 0, .ref a1, .ref a2, .ref a3, .ref a4, .int 0, .ref a5, .ref a6, .ref a7, .ref a8, .int 0, .int 0, .int 0, .int 0, .ref a9, .ref a10, .ref a11, .ref a12, .ref a13]))] sz) := by
  refine xm_of (QQ := QR (dC, dI) [(a0, .inr (4, [.int 1, .int 0, .ref a1, .ref a2, .ref a3, .ref a4, .int 0, .ref a5, .ref a6, .ref a7, .ref a8, .int 0, .int 0, .int 0, .int 0, .ref a9, .ref a10, .ref a11, .ref a12, .ref a13]))] (some (.int 0))) (by decide +kernel) (Nat.le_of_ble_eq_true rfl) ?_
  intro p e s m below meth c A ls hx hb hr hml hown hts hlocks hin hK hP hD hE hA hS hl
  have hown : s.vm.findClass RX4 = some m.cls := hown
  have hl : lv_has ls 1 [(0, .ref a0)] := hl
  have hP : va_P (dC, dI) vwCl [(a0, .inr (4, [.int 0, .int 0, .ref a1, .ref a2, .ref a3, .ref a4, .int 0, .ref a5, .ref a6, .ref a7, .ref a8, .int 0, .int 0, .int 0, .int 0, .ref a9, .ref a10, .ref a11, .ref a12, .ref a13]))] s.heap := hP
  refine lv_aload_n hx hb dX4_isComplete_0 rfl (lv_at hl 0 rfl) ?_
  refine xc_V (b := a0) (wc := [(a0, .inr (4, [.int 0, .int 0, .ref a1, .ref a2, .ref a3, .ref a4, .int 0, .ref a5, .ref a6, .ref a7, .ref a8, .int 0, .int 0, .int 0, .int 0, .ref a9, .ref a10, .ref a11, .ref a12, .ref a13]))]) (As := []) (rest := []) (wr := []) ⟨hx, hb, hml, hown, hts⟩ (kX4_asks_0 l hfl dC dI cI cZ cJ cD a0 a1 a2 a3 a4 a5 a6 a7 a8 a9 a10 a11 a12 a13 _) q869 okX4_asks hP hD hK hE hS hA [0] [] rfl rfl (by decide) (by decide) (by decide) (ci := 4) rfl 0 rfl rfl rfl hl.1 rfl (Nat.le_of_ble_eq_true rfl) ⟨rfl, rfl⟩ ⟨Nat.le_of_ble_eq_true rfl, Nat.le_of_ble_eq_true rfl⟩ ⟨Nat.le_of_ble_eq_true rfl, Nat.le_of_ble_eq_true rfl⟩ dX4_isComplete_1 (fun H locs hP hD hS => ?_)
  have hP : va_P (dC, dI) vwCl [(a0, .inr (4, [.int 1, .int 0, .ref a1, .ref a2, .ref a3, .ref a4, .int 0, .ref a5, .ref a6, .ref a7, .ref a8, .int 0, .int 0, .int 0, .int 0, .ref a9, .ref a10, .ref a11, .ref a12, .ref a13]))] H := hP
  have hD : va_D A [(a0, .inr (4, [.int 1, .int 0, .ref a1, .ref a2, .ref a3, .ref a4, .int 0, .ref a5, .ref a6, .ref a7, .ref a8, .int 0, .int 0, .int 0, .int 0, .ref a9, .ref a10, .ref a11, .ref a12, .ref a13]))] := hD
  refine W.eq (g2 := F0 m 4 ls [.int 0]) rfl ?_
  refine lv_if_eq (tgt := 18) hx hb dX4_isComplete_4 (by decide) (fun _ => ?_) (fun h9 => absurd (by decide) h9)
  refine lv_iconst (v := 0) hx hb dX4_isComplete_18 (by decide) ?_
  exact xr_z hx hb hr hlocks hP hD hS [0] rfl (by decide) rfl (Nat.le_of_ble_eq_true rfl) (Nat.le_of_ble_eq_true rfl) dX4_isComplete_19
set_option maxHeartbeats 4000000 in
set_option maxRecDepth 100000 in
theorem kX3_firstCount_0 (l : Launch) (hfl : l.stackTraces = false) (dC : Nat → ClassId) (dI : Nat → Nat → Nat) (cI cZ cJ cD : ClassId) (a0 a1 a2 a3 : Nat) (sz : Nat) : vx_Met l yX3_firstCount (ws_ yX3_firstCount cX3_firstCount 1 (some .int)) (rm_ 2 1 6) (PC (dC, dI) (tyL cI cZ cJ cD) [(a0, .inr (3, [.ref a1, .ref a2, .ref a3, .int 0]))] sz [.ref a0]) QN (XR nISE (va_A [(a0, .inr (3, [.ref a1, .ref a2, .ref a3, .int 0]))] sz)) 1 6 (va_A [(a0, .inr (3, [.ref a1, .ref a2, .ref a3, .int 0]))] sz) := by
  refine xm_x (cls := nISE) (by decide +kernel) (Nat.le_of_ble_eq_true rfl) ?_
  intro p e s m below meth c A ls hx hb hr hml hown hts hlocks hno hK hP hD hE hA hS hl
  have hown : s.vm.findClass RX3 = some m.cls := hown
  have hl : lv_has ls 1 [(0, .ref a0)] := hl
  have hP : va_P (dC, dI) vwCl [(a0, .inr (3, [.ref a1, .ref a2, .ref a3, .int 0]))] s.heap := hP
  refine lv_aload_n hx hb dX3_firstCount_0 rfl (lv_at hl 0 rfl) ?_
  refine xx_V (b := a0) (wc := [(a0, .inr (3, [.ref a1, .ref a2, .ref a3, .int 0]))]) (As := []) (rest := []) (wr := []) ⟨hx, hb, hml, hown, hts⟩ (kX3_requireExploration_0 l hfl dC dI cI cZ cJ cD a0 a1 a2 a3 _) q556 okX3_requireExploration hP hD hK hE hS hA [0] [] rfl rfl (by decide) (by decide) (by decide) (ci := 3) rfl 0 rfl rfl rfl hl.1 rfl (Nat.le_of_ble_eq_true rfl) ⟨rfl, rfl⟩ ⟨Nat.le_of_ble_eq_true rfl, Nat.le_of_ble_eq_true rfl⟩ ⟨Nat.le_of_ble_eq_true rfl, Nat.le_of_ble_eq_true rfl⟩ dX3_firstCount_1 (fun q9 ce H locs h1 h2 h3 hP hD hS => ?_)
  exact xx_out hno hlocks h1 h2 h3 hS (Nat.le_of_ble_eq_true rfl) (Nat.le_of_ble_eq_true rfl)
set_option maxHeartbeats 4000000 in
set_option maxRecDepth 100000 in
theorem kL_firstCount_0 (l : Launch) (hfl : l.stackTraces = false) (dC : Nat → ClassId) (dI : Nat → Nat → Nat) (cI cZ cJ cD : ClassId) (a0 a1 a2 a3 a4 : Nat) (sz : Nat) : Met l yL_firstCount (wh_ yL_firstCount cL_firstCount 3 (some .int) [(0, 8, 11, 15)]) (rm_ 3 1 6) (PC (dC, dI) (tyL cI cZ cJ cD) [(a0, .inr (3, [.ref a2, .ref a3, .ref a4, .int 0]))] sz [.ref a0, .ref a1]) (QR (dC, dI) [] (some (.int 1)) (va_A [(a0, .inr (3, [.ref a2, .ref a3, .ref a4, .int 0]))] sz)) 1 6 (va_A [(a0, .inr (3, [.ref a2, .ref a3, .ref a4, .int 0]))] sz) := by
  refine xm_h (QQ := QR (dC, dI) [] (some (.int 1))) (by decide +kernel) (Nat.le_of_ble_eq_true rfl) ?_
  intro p e s m below meth c A ls hx hb hr hml hown hts hlocks htab hK hP hD hE hA hS hl
  have hown : s.vm.findClass RL = some m.cls := hown
  have hl : lv_has ls 3 [(0, .ref a0), (1, .ref a1)] := hl
  have hP : va_P (dC, dI) vwCl [(a0, .inr (3, [.ref a2, .ref a3, .ref a4, .int 0]))] s.heap := hP
  refine lv_aload_n hx hb dL_firstCount_0 rfl (lv_at hl 1 rfl) ?_
  refine lv_iconst (v := 0) hx hb dL_firstCount_1 (by decide) ?_
  refine lv_aload_n hx hb dL_firstCount_2 rfl (lv_at hl 0 rfl) ?_
  refine xx_V (b := a0) (wc := [(a0, .inr (3, [.ref a2, .ref a3, .ref a4, .int 0]))]) (As := []) (rest := [.int 0, .ref a1]) (wr := []) ⟨hx, hb, hml, hown, hts⟩ (kX3_firstCount_0 l hfl dC dI cI cZ cJ cD a0 a2 a3 a4 _) q564 okX3_firstCount hP hD hK hE hS hA [0] [] rfl rfl (by decide) (by decide) (by decide) (ci := 3) rfl 0 rfl rfl rfl hl.1 rfl (Nat.le_of_ble_eq_true rfl) ⟨rfl, rfl⟩ ⟨Nat.le_of_ble_eq_true rfl, Nat.le_of_ble_eq_true rfl⟩ ⟨Nat.le_of_ble_eq_true rfl, Nat.le_of_ble_eq_true rfl⟩ dL_firstCount_3 (fun q9 ce H locs h1 h2 h3 hP hD hS => ?_)
  refine vx_catch (own := RL) (name := nISE) (E := nISE) hown [] ⟨0, 8, 11, 15⟩ [] htab (fun z hz => by cases hz) (by decide) (by decide) (hts _ q392) (hE.2.2.cISE.use rfl) h1 h2 h3 ?_
  refine W.eq (g2 := F0 m 11 ls [.ref q9]) rfl ?_
  refine lv_astore_n (lv' := [(2, .ref q9), (0, .ref a0), (1, .ref a1)]) hx hb dL_firstCount_11 rfl hl (by decide) rfl (fun ls hl => ?_)
  refine lv_iconst (v := 1) hx hb dL_firstCount_12 (by decide) ?_
  exact xr_i hx hb hr hlocks hP hD hS [] rfl (by decide) (Nat.le_of_ble_eq_true rfl) (Nat.le_of_ble_eq_true rfl) dL_firstCount_13
set_option maxHeartbeats 4000000 in
set_option maxRecDepth 100000 in
theorem kX4_firstCount_0 (l : Launch) (hfl : l.stackTraces = false) (dC : Nat → ClassId) (dI : Nat → Nat → Nat) (cI cZ cJ cD : ClassId) (a0 a1 a2 a3 a4 a5 a6 a7 a8 a9 a10 a11 a12 a13 : Nat) (sz : Nat) : Met l yX4_firstCount (ws_ yX4_firstCount cX4_firstCount 1 (some .int)) (rm_ 2 0 0) (PC (dC, dI) (tyL cI cZ cJ cD) [(a0, .inr (4, [.int 0, .int 0, .ref a1, .ref a2, .ref a3, .ref a4, .int 0, .ref a5, .ref a6, .ref a7, .ref a8, .int 0, .int 0, .int 0, .int 0, .ref a9, .ref a10, .ref a11, .ref a12, .ref a13]))] sz [.ref a0]) (QR (dC, dI) [(a0, .inr (4, [.int 1, .int 0, .ref a1, .ref a2, .ref a3, .ref a4, .int 0, .ref a5, .ref a6, .ref a7, .ref a8, .int 0, .int 0, .int 0, .int 0, .ref a9, .ref a10, .ref a11, .ref a12, .ref a13]))] (some (.int 0)) (va_A [(a0, .inr (4, [.int 0, .int 0, .ref a1, .ref a2, .ref a3, .ref a4, .int 0, .ref a5, .ref a6, .ref a7, .ref a8, .int 0, .int 0, .int 0, .int 0, .ref a9, .ref a10, .ref a11, .ref a12, .ref a13]))] sz)) 0 0 (va_A [(a0, .inr (4, [.int 0, .int 0, .ref a1, .ref a2, .ref a3, .ref a4, .int 0, .ref a5, .ref a6, .ref a7, .ref a8, .int 0, .int 0, .int 0, .int 0, .ref a9, .ref a10, .ref a11, .ref a12, .ref a13]))] sz) := by
  refine xm_of (QQ := QR (dC, dI) [(a0, .inr (4, [.int 1, .int 0, .ref a1, .ref a2, .ref a3, .ref a4, .int 0, .ref a5, .ref a6, .ref a7, .ref a8, .int 0, .int 0, .int 0, .int 0, .ref a9, .ref a10, .ref a11, .ref a12, .ref a13]))] (some (.int 0))) (by decide +kernel) (Nat.le_of_ble_eq_true rfl) ?_
  intro p e s m below meth c A ls hx hb hr hml hown hts hlocks hin hK hP hD hE hA hS hl
  have hown : s.vm.findClass RX4 = some m.cls := hown
  have hl : lv_has ls 1 [(0, .ref a0)] := hl
  have hP : va_P (dC, dI) vwCl [(a0, .inr (4, [.int 0, .int 0, .ref a1, .ref a2, .ref a3, .ref a4, .int 0, .ref a5, .ref a6, .ref a7, .ref a8, .int 0, .int 0, .int 0, .int 0, .ref a9, .ref a10, .ref a11, .ref a12, .ref a13]))] s.heap := hP
  refine lv_aload_n hx hb dX4_firstCount_0 rfl (lv_at hl 0 rfl) ?_
  refine xc_V (b := a0) (wc := [(a0, .inr (4, [.int 0, .int 0, .ref a1, .ref a2, .ref a3, .ref a4, .int 0, .ref a5, .ref a6, .ref a7, .ref a8, .int 0, .int 0, .int 0, .int 0, .ref a9, .ref a10, .ref a11, .ref a12, .ref a13]))]) (As := []) (rest := []) (wr := []) ⟨hx, hb, hml, hown, hts⟩ (kX4_asks_0 l hfl dC dI cI cZ cJ cD a0 a1 a2 a3 a4 a5 a6 a7 a8 a9 a10 a11 a12 a13 _) q869 okX4_asks hP hD hK hE hS hA [0] [] rfl rfl (by decide) (by decide) (by decide) (ci := 4) rfl 0 rfl rfl rfl hl.1 rfl (Nat.le_of_ble_eq_true rfl) ⟨rfl, rfl⟩ ⟨Nat.le_of_ble_eq_true rfl, Nat.le_of_ble_eq_true rfl⟩ ⟨Nat.le_of_ble_eq_true rfl, Nat.le_of_ble_eq_true rfl⟩ dX4_firstCount_1 (fun H locs hP hD hS => ?_)
  have hP : va_P (dC, dI) vwCl [(a0, .inr (4, [.int 1, .int 0, .ref a1, .ref a2, .ref a3, .ref a4, .int 0, .ref a5, .ref a6, .ref a7, .ref a8, .int 0, .int 0, .int 0, .int 0, .ref a9, .ref a10, .ref a11, .ref a12, .ref a13]))] H := hP
  have hD : va_D A [(a0, .inr (4, [.int 1, .int 0, .ref a1, .ref a2, .ref a3, .ref a4, .int 0, .ref a5, .ref a6, .ref a7, .ref a8, .int 0, .int 0, .int 0, .int 0, .ref a9, .ref a10, .ref a11, .ref a12, .ref a13]))] := hD
  refine W.eq (g2 := F0 m 4 ls [.int 0]) rfl ?_
  refine lv_if_eq (tgt := 14) hx hb dX4_firstCount_4 (by decide) (fun _ => ?_) (fun h9 => absurd (by decide) h9)
  refine lv_iconst (v := 0) hx hb dX4_firstCount_14 (by decide) ?_
  exact xr_i hx hb hr hlocks hP hD hS [0] rfl (by decide) (Nat.le_of_ble_eq_true rfl) (Nat.le_of_ble_eq_true rfl) dX4_firstCount_15
set_option maxHeartbeats 4000000 in
set_option maxRecDepth 100000 in
theorem kX3_value_0 (l : Launch) (hfl : l.stackTraces = false) (dC : Nat → ClassId) (dI : Nat → Nat → Nat) (cI cZ cJ cD : ClassId) (a0 a1 a2 a3 : Nat) (x0 x1 : Int32) (sz : Nat) : vx_Met l yX3_value (ws_ yX3_value cX3_value 3 (some .int)) (rm_ 2 1 6) (PC (dC, dI) (tyL cI cZ cJ cD) [(a0, .inr (3, [.ref a1, .ref a2, .ref a3, .int 0]))] sz [.ref a0, .int x0, .int x1]) QN (XR nISE (va_A [(a0, .inr (3, [.ref a1, .ref a2, .ref a3, .int 0]))] sz)) 1 6 (va_A [(a0, .inr (3, [.ref a1, .ref a2, .ref a3, .int 0]))] sz) := by
  refine xm_x (cls := nISE) (by decide +kernel) (Nat.le_of_ble_eq_true rfl) ?_
  intro p e s m below meth c A ls hx hb hr hml hown hts hlocks hno hK hP hD hE hA hS hl
  have hown : s.vm.findClass RX3 = some m.cls := hown
  have hl : lv_has ls 3 [(0, .ref a0), (1, .int x0), (2, .int x1)] := hl
  have hP : va_P (dC, dI) vwCl [(a0, .inr (3, [.ref a1, .ref a2, .ref a3, .int 0]))] s.heap := hP
  refine lv_aload_n hx hb dX3_value_0 rfl (lv_at hl 0 rfl) ?_
  refine xx_V (b := a0) (wc := [(a0, .inr (3, [.ref a1, .ref a2, .ref a3, .int 0]))]) (As := []) (rest := []) (wr := []) ⟨hx, hb, hml, hown, hts⟩ (kX3_requireExploration_0 l hfl dC dI cI cZ cJ cD a0 a1 a2 a3 _) q556 okX3_requireExploration hP hD hK hE hS hA [0] [] rfl rfl (by decide) (by decide) (by decide) (ci := 3) rfl 0 rfl rfl rfl hl.1 rfl (Nat.le_of_ble_eq_true rfl) ⟨rfl, rfl⟩ ⟨Nat.le_of_ble_eq_true rfl, Nat.le_of_ble_eq_true rfl⟩ ⟨Nat.le_of_ble_eq_true rfl, Nat.le_of_ble_eq_true rfl⟩ dX3_value_1 (fun q9 ce H locs h1 h2 h3 hP hD hS => ?_)
  exact xx_out hno hlocks h1 h2 h3 hS (Nat.le_of_ble_eq_true rfl) (Nat.le_of_ble_eq_true rfl)
set_option maxHeartbeats 4000000 in
set_option maxRecDepth 100000 in
theorem kL_value_0 (l : Launch) (hfl : l.stackTraces = false) (dC : Nat → ClassId) (dI : Nat → Nat → Nat) (cI cZ cJ cD : ClassId) (a0 a1 a2 a3 a4 : Nat) (x0 x1 : Int32) (sz : Nat) : Met l yL_value (wh_ yL_value cL_value 5 (some .int) [(0, 10, 13, 15), (0, 10, 17, 21)]) (rm_ 3 1 6) (PC (dC, dI) (tyL cI cZ cJ cD) [(a0, .inr (3, [.ref a2, .ref a3, .ref a4, .int 0]))] sz [.ref a0, .int x0, .int x1, .ref a1]) (QR (dC, dI) [] (some (.int 1)) (va_A [(a0, .inr (3, [.ref a2, .ref a3, .ref a4, .int 0]))] sz)) 1 6 (va_A [(a0, .inr (3, [.ref a2, .ref a3, .ref a4, .int 0]))] sz) := by
  refine xm_h (QQ := QR (dC, dI) [] (some (.int 1))) (by decide +kernel) (Nat.le_of_ble_eq_true rfl) ?_
  intro p e s m below meth c A ls hx hb hr hml hown hts hlocks htab hK hP hD hE hA hS hl
  have hown : s.vm.findClass RL = some m.cls := hown
  have hl : lv_has ls 5 [(0, .ref a0), (1, .int x0), (2, .int x1), (3, .ref a1)] := hl
  have hP : va_P (dC, dI) vwCl [(a0, .inr (3, [.ref a2, .ref a3, .ref a4, .int 0]))] s.heap := hP
  refine lv_aload_n hx hb dL_value_0 rfl (lv_at hl 3 rfl) ?_
  refine lv_iconst (v := 0) hx hb dL_value_1 (by decide) ?_
  refine lv_aload_n hx hb dL_value_2 rfl (lv_at hl 0 rfl) ?_
  refine lv_iload_n hx hb dL_value_3 rfl (lv_at hl 1 rfl) ?_
  refine lv_iload_n hx hb dL_value_4 rfl (lv_at hl 2 rfl) ?_
  refine xx_V (b := a0) (wc := [(a0, .inr (3, [.ref a2, .ref a3, .ref a4, .int 0]))]) (As := [.int x0, .int x1]) (rest := [.int 0, .ref a1]) (wr := []) ⟨hx, hb, hml, hown, hts⟩ (kX3_value_0 l hfl dC dI cI cZ cJ cD a0 a2 a3 a4 x0 x1 _) q571 okX3_value hP hD hK hE hS hA [0] [] rfl rfl (by decide) (by decide) (by decide) (ci := 3) rfl 0 rfl rfl rfl hl.1 rfl (Nat.le_of_ble_eq_true rfl) ⟨rfl, rfl⟩ ⟨Nat.le_of_ble_eq_true rfl, Nat.le_of_ble_eq_true rfl⟩ ⟨Nat.le_of_ble_eq_true rfl, Nat.le_of_ble_eq_true rfl⟩ dL_value_5 (fun q9 ce H locs h1 h2 h3 hP hD hS => ?_)
  refine vx_catch (own := RL) (name := nISE) (E := nISE) hown [] ⟨0, 10, 13, 15⟩ [⟨0, 10, 17, 21⟩] htab (fun z hz => by cases hz) (by decide) (by decide) (hts _ q392) (hE.2.2.cISE.use rfl) h1 h2 h3 ?_
  refine W.eq (g2 := F0 m 13 ls [.ref q9]) rfl ?_
  refine lv_astore (lv' := [(4, .ref q9), (0, .ref a0), (1, .int x0), (2, .int x1), (3, .ref a1)]) hx hb dL_value_13 hl (by decide) rfl (fun ls hl => ?_)
  refine lv_iconst (v := 1) hx hb dL_value_15 (by decide) ?_
  exact xr_i hx hb hr hlocks hP hD hS [] rfl (by decide) (Nat.le_of_ble_eq_true rfl) (Nat.le_of_ble_eq_true rfl) dL_value_16
set_option maxHeartbeats 4000000 in
set_option maxRecDepth 100000 in
theorem kX4_asks__0 (l : Launch) (hfl : l.stackTraces = false) (dC : Nat → ClassId) (dI : Nat → Nat → Nat) (cI cZ cJ cD : ClassId) (a0 a1 a2 a3 a4 a5 a6 a7 a8 a9 a10 a11 a12 a13 : Nat) (x0 x1 : Int32) (sz : Nat) : Met l yX4_asks_ (ws_ yX4_asks_ cX4_asks_ 4 (some .boolean)) (rm_ 1 0 0) (PC (dC, dI) (tyL cI cZ cJ cD) [(a0, .inr (4, [.int 0, .int 0, .ref a1, .ref a2, .ref a3, .ref a4, .int 0, .ref a5, .ref a6, .ref a7, .ref a8, .int 0, .int 0, .int 0, .int 0, .ref a9, .ref a10, .ref a11, .ref a12, .ref a13]))] sz [.ref a0, .int x0, .int x1, .int 0]) (QR (dC, dI) [(a0, .inr (4, [.int 1, .int 0, .ref a1, .ref a2, .ref a3, .ref a4, .int 0, .ref a5, .ref a6, .ref a7, .ref a8, .int 0, .int 0, .int 0, .int 0, .ref a9, .ref a10, .ref a11, .ref a12, .ref a13]))] (some (.int 0)) (va_A [(a0, .inr (4, [.int 0, .int 0, .ref a1, .ref a2, .ref a3, .ref a4, .int 0, .ref a5, .ref a6, .ref a7, .ref a8, .int 0, .int 0, .int 0, .int 0, .ref a9, .ref a10, .ref a11, .ref a12, .ref a13]))] sz)) 0 0 (va_A [(a0, .inr (4, [.int 0, .int 0, .ref a1, .ref a2, .ref a3, .ref a4, .int 0, .ref a5, .ref a6, .ref a7, .ref a8, .int 0, .int 0, .int 0, .int 0, .ref a9, .ref a10, .ref a11, .ref a12, .ref a13]))] sz) := by
  refine xm_of (QQ := QR (dC, dI) [(a0, .inr (4, [.int 1, .int 0, .ref a1, .ref a2, .ref a3, .ref a4, .int 0, .ref a5, .ref a6, .ref a7, .ref a8, .int 0, .int 0, .int 0, .int 0, .ref a9, .ref a10, .ref a11, .ref a12, .ref a13]))] (some (.int 0))) (by decide +kernel) (Nat.le_of_ble_eq_true rfl) ?_
  intro p e s m below meth c A ls hx hb hr hml hown hts hlocks hin hK hP hD hE hA hS hl
  have hown : s.vm.findClass RX4 = some m.cls := hown
  have hl : lv_has ls 4 [(0, .ref a0), (1, .int x0), (2, .int x1), (3, .int 0)] := hl
  have hP : va_P (dC, dI) vwCl [(a0, .inr (4, [.int 0, .int 0, .ref a1, .ref a2, .ref a3, .ref a4, .int 0, .ref a5, .ref a6, .ref a7, .ref a8, .int 0, .int 0, .int 0, .int 0, .ref a9, .ref a10, .ref a11, .ref a12, .ref a13]))] s.heap := hP
  refine lv_aload_n hx hb dX4_asks__0 rfl (lv_at hl 0 rfl) ?_
  refine lv_aload_n hx hb dX4_asks__1 rfl (lv_at hl 0 rfl) ?_
  refine va_get (D := (dC, dI)) (ci := 4) (v := .int 0) (C := RX4) (T := TX4) (N := 20) hx hb hts inX4 hown hK hP 0 rfl rfl 11 (by decide) (hts _ q698) (fun _ h9 => h9) rfl dX4_asks__2 ?_
  refine lv_if_ne (tgt := 12) hx hb dX4_asks__5 (by decide) (fun h9 => absurd (by decide) h9) (fun _ => ?_)
  refine lv_iconst (v := 1) hx hb dX4_asks__8 (by decide) ?_
  refine lv_goto (tgt := 38) hx hb dX4_asks__9 (by decide) ?_
  refine va_put (D := (dC, dI)) (ci := 4) (v := .int 1) (ty := .int) (C := RX4) (T := TX4) (N := 20) hx hb hts inX4 tyX4 tyX4_ok nmX4 hown hK hP hD hS 0 rfl rfl 0 (by decide) (hts _ q687) (fun _ h9 => h9) rfl (by decide +kernel) rfl rfl (Nat.le_of_ble_eq_true rfl) dX4_asks__38 (fun H locs hP hD hS => ?_)
  have hP : va_P (dC, dI) vwCl [(a0, .inr (4, [.int 1, .int 0, .ref a1, .ref a2, .ref a3, .ref a4, .int 0, .ref a5, .ref a6, .ref a7, .ref a8, .int 0, .int 0, .int 0, .int 0, .ref a9, .ref a10, .ref a11, .ref a12, .ref a13]))] H := hP
  have hD : va_D A [(a0, .inr (4, [.int 1, .int 0, .ref a1, .ref a2, .ref a3, .ref a4, .int 0, .ref a5, .ref a6, .ref a7, .ref a8, .int 0, .int 0, .int 0, .int 0, .ref a9, .ref a10, .ref a11, .ref a12, .ref a13]))] := hD
  refine lv_aload_n hx hb dX4_asks__41 rfl (lv_at hl 0 rfl) ?_
  refine va_get (D := (dC, dI)) (ci := 4) (v := .int 1) (C := RX4) (T := TX4) (N := 20) hx hb hts inX4 hown hK hP 0 rfl rfl 0 (by decide) (hts _ q687) (fun _ h9 => h9) rfl dX4_asks__42 ?_
  refine lv_if_ne (tgt := 52) hx hb dX4_asks__45 (by decide) (fun _ => ?_) (fun h9 => absurd h9 (by decide))
  refine lv_iconst (v := 0) hx hb dX4_asks__52 (by decide) ?_
  exact xr_z hx hb hr hlocks hP hD hS [0] rfl (by decide) rfl (Nat.le_of_ble_eq_true rfl) (Nat.le_of_ble_eq_true rfl) dX4_asks__53
set_option maxHeartbeats 4000000 in
set_option maxRecDepth 100000 in
theorem kX4_value_0 (l : Launch) (hfl : l.stackTraces = false) (dC : Nat → ClassId) (dI : Nat → Nat → Nat) (cI cZ cJ cD : ClassId) (a0 a1 a2 a3 a4 a5 a6 a7 a8 a9 a10 a11 a12 a13 : Nat) (x0 x1 : Int32) (sz : Nat) : Met l yX4_value (ws_ yX4_value cX4_value 3 (some .int)) (rm_ 2 0 0) (PC (dC, dI) (tyL cI cZ cJ cD) [(a0, .inr (4, [.int 0, .int 0, .ref a1, .ref a2, .ref a3, .ref a4, .int 0, .ref a5, .ref a6, .ref a7, .ref a8, .int 0, .int 0, .int 0, .int 0, .ref a9, .ref a10, .ref a11, .ref a12, .ref a13]))] sz [.ref a0, .int x0, .int x1]) (QR (dC, dI) [(a0, .inr (4, [.int 1, .int 0, .ref a1, .ref a2, .ref a3, .ref a4, .int 0, .ref a5, .ref a6, .ref a7, .ref a8, .int 0, .int 0, .int 0, .int 0, .ref a9, .ref a10, .ref a11, .ref a12, .ref a13]))] (some (.int 0)) (va_A [(a0, .inr (4, [.int 0, .int 0, .ref a1, .ref a2, .ref a3, .ref a4, .int 0, .ref a5, .ref a6, .ref a7, .ref a8, .int 0, .int 0, .int 0, .int 0, .ref a9, .ref a10, .ref a11, .ref a12, .ref a13]))] sz)) 0 0 (va_A [(a0, .inr (4, [.int 0, .int 0, .ref a1, .ref a2, .ref a3, .ref a4, .int 0, .ref a5, .ref a6, .ref a7, .ref a8, .int 0, .int 0, .int 0, .int 0, .ref a9, .ref a10, .ref a11, .ref a12, .ref a13]))] sz) := by
  refine xm_of (QQ := QR (dC, dI) [(a0, .inr (4, [.int 1, .int 0, .ref a1, .ref a2, .ref a3, .ref a4, .int 0, .ref a5, .ref a6, .ref a7, .ref a8, .int 0, .int 0, .int 0, .int 0, .ref a9, .ref a10, .ref a11, .ref a12, .ref a13]))] (some (.int 0))) (by decide +kernel) (Nat.le_of_ble_eq_true rfl) ?_
  intro p e s m below meth c A ls hx hb hr hml hown hts hlocks hin hK hP hD hE hA hS hl
  have hown : s.vm.findClass RX4 = some m.cls := hown
  have hl : lv_has ls 3 [(0, .ref a0), (1, .int x0), (2, .int x1)] := hl
  have hP : va_P (dC, dI) vwCl [(a0, .inr (4, [.int 0, .int 0, .ref a1, .ref a2, .ref a3, .ref a4, .int 0, .ref a5, .ref a6, .ref a7, .ref a8, .int 0, .int 0, .int 0, .int 0, .ref a9, .ref a10, .ref a11, .ref a12, .ref a13]))] s.heap := hP
  refine lv_aload_n hx hb dX4_value_0 rfl (lv_at hl 0 rfl) ?_
  refine lv_iload_n hx hb dX4_value_1 rfl (lv_at hl 1 rfl) ?_
  refine lv_iload_n hx hb dX4_value_2 rfl (lv_at hl 2 rfl) ?_
  refine lv_aload_n hx hb dX4_value_3 rfl (lv_at hl 0 rfl) ?_
  refine va_get (D := (dC, dI)) (ci := 4) (v := .int 0) (C := RX4) (T := TX4) (N := 20) hx hb hts inX4 hown hK hP 0 rfl rfl 1 (by decide) (hts _ q688) (fun _ h9 => h9) rfl dX4_value_4 ?_
  refine xc_V (b := a0) (wc := [(a0, .inr (4, [.int 0, .int 0, .ref a1, .ref a2, .ref a3, .ref a4, .int 0, .ref a5, .ref a6, .ref a7, .ref a8, .int 0, .int 0, .int 0, .int 0, .ref a9, .ref a10, .ref a11, .ref a12, .ref a13]))]) (As := [.int x0, .int x1, .int 0]) (rest := []) (wr := []) ⟨hx, hb, hml, hown, hts⟩ (kX4_asks__0 l hfl dC dI cI cZ cJ cD a0 a1 a2 a3 a4 a5 a6 a7 a8 a9 a10 a11 a12 a13 x0 x1 _) q881 okX4_asks_ hP hD hK hE hS hA [0] [] rfl rfl (by decide) (by decide) (by decide) (ci := 4) rfl 0 rfl rfl rfl hl.1 rfl (Nat.le_of_ble_eq_true rfl) ⟨rfl, rfl⟩ ⟨Nat.le_of_ble_eq_true rfl, Nat.le_of_ble_eq_true rfl⟩ ⟨Nat.le_of_ble_eq_true rfl, Nat.le_of_ble_eq_true rfl⟩ dX4_value_7 (fun H locs hP hD hS => ?_)
  have hP : va_P (dC, dI) vwCl [(a0, .inr (4, [.int 1, .int 0, .ref a1, .ref a2, .ref a3, .ref a4, .int 0, .ref a5, .ref a6, .ref a7, .ref a8, .int 0, .int 0, .int 0, .int 0, .ref a9, .ref a10, .ref a11, .ref a12, .ref a13]))] H := hP
  have hD : va_D A [(a0, .inr (4, [.int 1, .int 0, .ref a1, .ref a2, .ref a3, .ref a4, .int 0, .ref a5, .ref a6, .ref a7, .ref a8, .int 0, .int 0, .int 0, .int 0, .ref a9, .ref a10, .ref a11, .ref a12, .ref a13]))] := hD
  refine W.eq (g2 := F0 m 10 ls [.int 0]) rfl ?_
  refine lv_if_eq (tgt := 27) hx hb dX4_value_10 (by decide) (fun _ => ?_) (fun h9 => absurd (by decide) h9)
  refine lv_iconst (v := 0) hx hb dX4_value_27 (by decide) ?_
  exact xr_i hx hb hr hlocks hP hD hS [0] rfl (by decide) (Nat.le_of_ble_eq_true rfl) (Nat.le_of_ble_eq_true rfl) dX4_value_28
set_option maxHeartbeats 4000000 in
set_option maxRecDepth 100000 in
theorem kX3_direction_0 (l : Launch) (hfl : l.stackTraces = false) (dC : Nat → ClassId) (dI : Nat → Nat → Nat) (cI cZ cJ cD : ClassId) (a0 a1 a2 a3 : Nat) (x0 x1 : Int32) (sz : Nat) : vx_Met l yX3_direction (ws_ yX3_direction cX3_direction 3 (some .int)) (rm_ 2 1 6) (PC (dC, dI) (tyL cI cZ cJ cD) [(a0, .inr (3, [.ref a1, .ref a2, .ref a3, .int 0]))] sz [.ref a0, .int x0, .int x1]) QN (XR nISE (va_A [(a0, .inr (3, [.ref a1, .ref a2, .ref a3, .int 0]))] sz)) 1 6 (va_A [(a0, .inr (3, [.ref a1, .ref a2, .ref a3, .int 0]))] sz) := by
  refine xm_x (cls := nISE) (by decide +kernel) (Nat.le_of_ble_eq_true rfl) ?_
  intro p e s m below meth c A ls hx hb hr hml hown hts hlocks hno hK hP hD hE hA hS hl
  have hown : s.vm.findClass RX3 = some m.cls := hown
  have hl : lv_has ls 3 [(0, .ref a0), (1, .int x0), (2, .int x1)] := hl
  have hP : va_P (dC, dI) vwCl [(a0, .inr (3, [.ref a1, .ref a2, .ref a3, .int 0]))] s.heap := hP
  refine lv_aload_n hx hb dX3_direction_0 rfl (lv_at hl 0 rfl) ?_
  refine xx_V (b := a0) (wc := [(a0, .inr (3, [.ref a1, .ref a2, .ref a3, .int 0]))]) (As := []) (rest := []) (wr := []) ⟨hx, hb, hml, hown, hts⟩ (kX3_requireExploration_0 l hfl dC dI cI cZ cJ cD a0 a1 a2 a3 _) q556 okX3_requireExploration hP hD hK hE hS hA [0] [] rfl rfl (by decide) (by decide) (by decide) (ci := 3) rfl 0 rfl rfl rfl hl.1 rfl (Nat.le_of_ble_eq_true rfl) ⟨rfl, rfl⟩ ⟨Nat.le_of_ble_eq_true rfl, Nat.le_of_ble_eq_true rfl⟩ ⟨Nat.le_of_ble_eq_true rfl, Nat.le_of_ble_eq_true rfl⟩ dX3_direction_1 (fun q9 ce H locs h1 h2 h3 hP hD hS => ?_)
  exact xx_out hno hlocks h1 h2 h3 hS (Nat.le_of_ble_eq_true rfl) (Nat.le_of_ble_eq_true rfl)
set_option maxHeartbeats 4000000 in
set_option maxRecDepth 100000 in
theorem kL_direction_0 (l : Launch) (hfl : l.stackTraces = false) (dC : Nat → ClassId) (dI : Nat → Nat → Nat) (cI cZ cJ cD : ClassId) (a0 a1 a2 a3 a4 : Nat) (x0 x1 : Int32) (sz : Nat) : Met l yL_direction (wh_ yL_direction cL_direction 5 (some .int) [(0, 10, 13, 15), (0, 10, 17, 21)]) (rm_ 3 1 6) (PC (dC, dI) (tyL cI cZ cJ cD) [(a0, .inr (3, [.ref a2, .ref a3, .ref a4, .int 0]))] sz [.ref a0, .int x0, .int x1, .ref a1]) (QR (dC, dI) [] (some (.int 1)) (va_A [(a0, .inr (3, [.ref a2, .ref a3, .ref a4, .int 0]))] sz)) 1 6 (va_A [(a0, .inr (3, [.ref a2, .ref a3, .ref a4, .int 0]))] sz) := by
  refine xm_h (QQ := QR (dC, dI) [] (some (.int 1))) (by decide +kernel) (Nat.le_of_ble_eq_true rfl) ?_
  intro p e s m below meth c A ls hx hb hr hml hown hts hlocks htab hK hP hD hE hA hS hl
  have hown : s.vm.findClass RL = some m.cls := hown
  have hl : lv_has ls 5 [(0, .ref a0), (1, .int x0), (2, .int x1), (3, .ref a1)] := hl
  have hP : va_P (dC, dI) vwCl [(a0, .inr (3, [.ref a2, .ref a3, .ref a4, .int 0]))] s.heap := hP
  refine lv_aload_n hx hb dL_direction_0 rfl (lv_at hl 3 rfl) ?_
  refine lv_iconst (v := 0) hx hb dL_direction_1 (by decide) ?_
  refine lv_aload_n hx hb dL_direction_2 rfl (lv_at hl 0 rfl) ?_
  refine lv_iload_n hx hb dL_direction_3 rfl (lv_at hl 1 rfl) ?_
  refine lv_iload_n hx hb dL_direction_4 rfl (lv_at hl 2 rfl) ?_
  refine xx_V (b := a0) (wc := [(a0, .inr (3, [.ref a2, .ref a3, .ref a4, .int 0]))]) (As := [.int x0, .int x1]) (rest := [.int 0, .ref a1]) (wr := []) ⟨hx, hb, hml, hown, hts⟩ (kX3_direction_0 l hfl dC dI cI cZ cJ cD a0 a2 a3 a4 x0 x1 _) q583 okX3_direction hP hD hK hE hS hA [0] [] rfl rfl (by decide) (by decide) (by decide) (ci := 3) rfl 0 rfl rfl rfl hl.1 rfl (Nat.le_of_ble_eq_true rfl) ⟨rfl, rfl⟩ ⟨Nat.le_of_ble_eq_true rfl, Nat.le_of_ble_eq_true rfl⟩ ⟨Nat.le_of_ble_eq_true rfl, Nat.le_of_ble_eq_true rfl⟩ dL_direction_5 (fun q9 ce H locs h1 h2 h3 hP hD hS => ?_)
  refine vx_catch (own := RL) (name := nISE) (E := nISE) hown [] ⟨0, 10, 13, 15⟩ [⟨0, 10, 17, 21⟩] htab (fun z hz => by cases hz) (by decide) (by decide) (hts _ q392) (hE.2.2.cISE.use rfl) h1 h2 h3 ?_
  refine W.eq (g2 := F0 m 13 ls [.ref q9]) rfl ?_
  refine lv_astore (lv' := [(4, .ref q9), (0, .ref a0), (1, .int x0), (2, .int x1), (3, .ref a1)]) hx hb dL_direction_13 hl (by decide) rfl (fun ls hl => ?_)
  refine lv_iconst (v := 1) hx hb dL_direction_15 (by decide) ?_
  exact xr_i hx hb hr hlocks hP hD hS [] rfl (by decide) (Nat.le_of_ble_eq_true rfl) (Nat.le_of_ble_eq_true rfl) dL_direction_16
set_option maxHeartbeats 4000000 in
set_option maxRecDepth 100000 in
theorem kX4_direction_0 (l : Launch) (hfl : l.stackTraces = false) (dC : Nat → ClassId) (dI : Nat → Nat → Nat) (cI cZ cJ cD : ClassId) (a0 a1 a2 a3 a4 a5 a6 a7 a8 a9 a10 a11 a12 a13 : Nat) (x0 x1 : Int32) (sz : Nat) : Met l yX4_direction (ws_ yX4_direction cX4_direction 3 (some .int)) (rm_ 2 0 0) (PC (dC, dI) (tyL cI cZ cJ cD) [(a0, .inr (4, [.int 0, .int 0, .ref a1, .ref a2, .ref a3, .ref a4, .int 0, .ref a5, .ref a6, .ref a7, .ref a8, .int 0, .int 0, .int 0, .int 0, .ref a9, .ref a10, .ref a11, .ref a12, .ref a13]))] sz [.ref a0, .int x0, .int x1]) (QR (dC, dI) [(a0, .inr (4, [.int 1, .int 0, .ref a1, .ref a2, .ref a3, .ref a4, .int 0, .ref a5, .ref a6, .ref a7, .ref a8, .int 0, .int 0, .int 0, .int 0, .ref a9, .ref a10, .ref a11, .ref a12, .ref a13]))] (some (.int 0)) (va_A [(a0, .inr (4, [.int 0, .int 0, .ref a1, .ref a2, .ref a3, .ref a4, .int 0, .ref a5, .ref a6, .ref a7, .ref a8, .int 0, .int 0, .int 0, .int 0, .ref a9, .ref a10, .ref a11, .ref a12, .ref a13]))] sz)) 0 0 (va_A [(a0, .inr (4, [.int 0, .int 0, .ref a1, .ref a2, .ref a3, .ref a4, .int 0, .ref a5, .ref a6, .ref a7, .ref a8, .int 0, .int 0, .int 0, .int 0, .ref a9, .ref a10, .ref a11, .ref a12, .ref a13]))] sz) := by
  refine xm_of (QQ := QR (dC, dI) [(a0, .inr (4, [.int 1, .int 0, .ref a1, .ref a2, .ref a3, .ref a4, .int 0, .ref a5, .ref a6, .ref a7, .ref a8, .int 0, .int 0, .int 0, .int 0, .ref a9, .ref a10, .ref a11, .ref a12, .ref a13]))] (some (.int 0))) (by decide +kernel) (Nat.le_of_ble_eq_true rfl) ?_
  intro p e s m below meth c A ls hx hb hr hml hown hts hlocks hin hK hP hD hE hA hS hl
  have hown : s.vm.findClass RX4 = some m.cls := hown
  have hl : lv_has ls 3 [(0, .ref a0), (1, .int x0), (2, .int x1)] := hl
  have hP : va_P (dC, dI) vwCl [(a0, .inr (4, [.int 0, .int 0, .ref a1, .ref a2, .ref a3, .ref a4, .int 0, .ref a5, .ref a6, .ref a7, .ref a8, .int 0, .int 0, .int 0, .int 0, .ref a9, .ref a10, .ref a11, .ref a12, .ref a13]))] s.heap := hP
  refine lv_aload_n hx hb dX4_direction_0 rfl (lv_at hl 0 rfl) ?_
  refine lv_iload_n hx hb dX4_direction_1 rfl (lv_at hl 1 rfl) ?_
  refine lv_iload_n hx hb dX4_direction_2 rfl (lv_at hl 2 rfl) ?_
  refine lv_aload_n hx hb dX4_direction_3 rfl (lv_at hl 0 rfl) ?_
  refine va_get (D := (dC, dI)) (ci := 4) (v := .int 0) (C := RX4) (T := TX4) (N := 20) hx hb hts inX4 hown hK hP 0 rfl rfl 1 (by decide) (hts _ q688) (fun _ h9 => h9) rfl dX4_direction_4 ?_
  refine xc_V (b := a0) (wc := [(a0, .inr (4, [.int 0, .int 0, .ref a1, .ref a2, .ref a3, .ref a4, .int 0, .ref a5, .ref a6, .ref a7, .ref a8, .int 0, .int 0, .int 0, .int 0, .ref a9, .ref a10, .ref a11, .ref a12, .ref a13]))]) (As := [.int x0, .int x1, .int 0]) (rest := []) (wr := []) ⟨hx, hb, hml, hown, hts⟩ (kX4_asks__0 l hfl dC dI cI cZ cJ cD a0 a1 a2 a3 a4 a5 a6 a7 a8 a9 a10 a11 a12 a13 x0 x1 _) q881 okX4_asks_ hP hD hK hE hS hA [0] [] rfl rfl (by decide) (by decide) (by decide) (ci := 4) rfl 0 rfl rfl rfl hl.1 rfl (Nat.le_of_ble_eq_true rfl) ⟨rfl, rfl⟩ ⟨Nat.le_of_ble_eq_true rfl, Nat.le_of_ble_eq_true rfl⟩ ⟨Nat.le_of_ble_eq_true rfl, Nat.le_of_ble_eq_true rfl⟩ dX4_direction_7 (fun H locs hP hD hS => ?_)
  have hP : va_P (dC, dI) vwCl [(a0, .inr (4, [.int 1, .int 0, .ref a1, .ref a2, .ref a3, .ref a4, .int 0, .ref a5, .ref a6, .ref a7, .ref a8, .int 0, .int 0, .int 0, .int 0, .ref a9, .ref a10, .ref a11, .ref a12, .ref a13]))] H := hP
  have hD : va_D A [(a0, .inr (4, [.int 1, .int 0, .ref a1, .ref a2, .ref a3, .ref a4, .int 0, .ref a5, .ref a6, .ref a7, .ref a8, .int 0, .int 0, .int 0, .int 0, .ref a9, .ref a10, .ref a11, .ref a12, .ref a13]))] := hD
  refine W.eq (g2 := F0 m 10 ls [.int 0]) rfl ?_
  refine lv_if_eq (tgt := 27) hx hb dX4_direction_10 (by decide) (fun _ => ?_) (fun h9 => absurd (by decide) h9)
  refine lv_iconst (v := 0) hx hb dX4_direction_27 (by decide) ?_
  exact xr_i hx hb hr hlocks hP hD hS [0] rfl (by decide) (Nat.le_of_ble_eq_true rfl) (Nat.le_of_ble_eq_true rfl) dX4_direction_28
set_option maxHeartbeats 4000000 in
set_option maxRecDepth 100000 in
theorem kX3_isInstant_0 (l : Launch) (hfl : l.stackTraces = false) (dC : Nat → ClassId) (dI : Nat → Nat → Nat) (cI cZ cJ cD : ClassId) (a0 a1 a2 a3 : Nat) (x0 : Int32) (sz : Nat) : vx_Met l yX3_isInstant (ws_ yX3_isInstant cX3_isInstant 2 (some .boolean)) (rm_ 2 1 6) (PC (dC, dI) (tyL cI cZ cJ cD) [(a0, .inr (3, [.ref a1, .ref a2, .ref a3, .int 0]))] sz [.ref a0, .int x0]) QN (XR nISE (va_A [(a0, .inr (3, [.ref a1, .ref a2, .ref a3, .int 0]))] sz)) 1 6 (va_A [(a0, .inr (3, [.ref a1, .ref a2, .ref a3, .int 0]))] sz) := by
  refine xm_x (cls := nISE) (by decide +kernel) (Nat.le_of_ble_eq_true rfl) ?_
  intro p e s m below meth c A ls hx hb hr hml hown hts hlocks hno hK hP hD hE hA hS hl
  have hown : s.vm.findClass RX3 = some m.cls := hown
  have hl : lv_has ls 2 [(0, .ref a0), (1, .int x0)] := hl
  have hP : va_P (dC, dI) vwCl [(a0, .inr (3, [.ref a1, .ref a2, .ref a3, .int 0]))] s.heap := hP
  refine lv_aload_n hx hb dX3_isInstant_0 rfl (lv_at hl 0 rfl) ?_
  refine xx_V (b := a0) (wc := [(a0, .inr (3, [.ref a1, .ref a2, .ref a3, .int 0]))]) (As := []) (rest := []) (wr := []) ⟨hx, hb, hml, hown, hts⟩ (kX3_requireExploration_0 l hfl dC dI cI cZ cJ cD a0 a1 a2 a3 _) q556 okX3_requireExploration hP hD hK hE hS hA [0] [] rfl rfl (by decide) (by decide) (by decide) (ci := 3) rfl 0 rfl rfl rfl hl.1 rfl (Nat.le_of_ble_eq_true rfl) ⟨rfl, rfl⟩ ⟨Nat.le_of_ble_eq_true rfl, Nat.le_of_ble_eq_true rfl⟩ ⟨Nat.le_of_ble_eq_true rfl, Nat.le_of_ble_eq_true rfl⟩ dX3_isInstant_1 (fun q9 ce H locs h1 h2 h3 hP hD hS => ?_)
  exact xx_out hno hlocks h1 h2 h3 hS (Nat.le_of_ble_eq_true rfl) (Nat.le_of_ble_eq_true rfl)
set_option maxHeartbeats 4000000 in
set_option maxRecDepth 100000 in
theorem kL_isInstant_0 (l : Launch) (hfl : l.stackTraces = false) (dC : Nat → ClassId) (dI : Nat → Nat → Nat) (cI cZ cJ cD : ClassId) (a0 a1 a2 a3 a4 : Nat) (x0 : Int32) (sz : Nat) : Met l yL_isInstant (wh_ yL_isInstant cL_isInstant 4 (some .int) [(0, 16, 19, 15), (0, 16, 22, 21)]) (rm_ 3 1 6) (PC (dC, dI) (tyL cI cZ cJ cD) [(a0, .inr (3, [.ref a2, .ref a3, .ref a4, .int 0]))] sz [.ref a0, .int x0, .ref a1]) (QR (dC, dI) [] (some (.int 1)) (va_A [(a0, .inr (3, [.ref a2, .ref a3, .ref a4, .int 0]))] sz)) 1 6 (va_A [(a0, .inr (3, [.ref a2, .ref a3, .ref a4, .int 0]))] sz) := by
  refine xm_h (QQ := QR (dC, dI) [] (some (.int 1))) (by decide +kernel) (Nat.le_of_ble_eq_true rfl) ?_
  intro p e s m below meth c A ls hx hb hr hml hown hts hlocks htab hK hP hD hE hA hS hl
  have hown : s.vm.findClass RL = some m.cls := hown
  have hl : lv_has ls 4 [(0, .ref a0), (1, .int x0), (2, .ref a1)] := hl
  have hP : va_P (dC, dI) vwCl [(a0, .inr (3, [.ref a2, .ref a3, .ref a4, .int 0]))] s.heap := hP
  refine lv_aload_n hx hb dL_isInstant_0 rfl (lv_at hl 2 rfl) ?_
  refine lv_iconst (v := 0) hx hb dL_isInstant_1 (by decide) ?_
  refine lv_aload_n hx hb dL_isInstant_2 rfl (lv_at hl 0 rfl) ?_
  refine lv_iload_n hx hb dL_isInstant_3 rfl (lv_at hl 1 rfl) ?_
  refine xx_V (b := a0) (wc := [(a0, .inr (3, [.ref a2, .ref a3, .ref a4, .int 0]))]) (As := [.int x0]) (rest := [.int 0, .ref a1]) (wr := []) ⟨hx, hb, hml, hown, hts⟩ (kX3_isInstant_0 l hfl dC dI cI cZ cJ cD a0 a2 a3 a4 x0 _) q590 okX3_isInstant hP hD hK hE hS hA [0] [] rfl rfl (by decide) (by decide) (by decide) (ci := 3) rfl 0 rfl rfl rfl hl.1 rfl (Nat.le_of_ble_eq_true rfl) ⟨rfl, rfl⟩ ⟨Nat.le_of_ble_eq_true rfl, Nat.le_of_ble_eq_true rfl⟩ ⟨Nat.le_of_ble_eq_true rfl, Nat.le_of_ble_eq_true rfl⟩ dL_isInstant_4 (fun q9 ce H locs h1 h2 h3 hP hD hS => ?_)
  refine vx_catch (own := RL) (name := nISE) (E := nISE) hown [] ⟨0, 16, 19, 15⟩ [⟨0, 16, 22, 21⟩] htab (fun z hz => by cases hz) (by decide) (by decide) (hts _ q392) (hE.2.2.cISE.use rfl) h1 h2 h3 ?_
  refine W.eq (g2 := F0 m 19 ls [.ref q9]) rfl ?_
  refine lv_astore_n (lv' := [(3, .ref q9), (0, .ref a0), (1, .int x0), (2, .ref a1)]) hx hb dL_isInstant_19 rfl hl (by decide) rfl (fun ls hl => ?_)
  refine lv_iconst (v := 1) hx hb dL_isInstant_20 (by decide) ?_
  exact xr_i hx hb hr hlocks hP hD hS [] rfl (by decide) (Nat.le_of_ble_eq_true rfl) (Nat.le_of_ble_eq_true rfl) dL_isInstant_21
set_option maxHeartbeats 4000000 in
set_option maxRecDepth 100000 in
theorem kX4_asks__1 (l : Launch) (hfl : l.stackTraces = false) (dC : Nat → ClassId) (dI : Nat → Nat → Nat) (cI cZ cJ cD : ClassId) (a0 a1 a2 a3 a4 a5 a6 a7 a8 a9 a10 a11 a12 a13 : Nat) (x0 : Int32) (sz : Nat) : Met l yX4_asks_ (ws_ yX4_asks_ cX4_asks_ 4 (some .boolean)) (rm_ 1 0 0) (PC (dC, dI) (tyL cI cZ cJ cD) [(a0, .inr (4, [.int 0, .int 0, .ref a1, .ref a2, .ref a3, .ref a4, .int 0, .ref a5, .ref a6, .ref a7, .ref a8, .int 0, .int 0, .int 0, .int 0, .ref a9, .ref a10, .ref a11, .ref a12, .ref a13]))] sz [.ref a0, .int x0, .int 0, .int 1]) (QR (dC, dI) [(a0, .inr (4, [.int 1, .int 0, .ref a1, .ref a2, .ref a3, .ref a4, .int 0, .ref a5, .ref a6, .ref a7, .ref a8, .int 0, .int 0, .int 0, .int 0, .ref a9, .ref a10, .ref a11, .ref a12, .ref a13]))] (some (.int 0)) (va_A [(a0, .inr (4, [.int 0, .int 0, .ref a1, .ref a2, .ref a3, .ref a4, .int 0, .ref a5, .ref a6, .ref a7, .ref a8, .int 0, .int 0, .int 0, .int 0, .ref a9, .ref a10, .ref a11, .ref a12, .ref a13]))] sz)) 0 0 (va_A [(a0, .inr (4, [.int 0, .int 0, .ref a1, .ref a2, .ref a3, .ref a4, .int 0, .ref a5, .ref a6, .ref a7, .ref a8, .int 0, .int 0, .int 0, .int 0, .ref a9, .ref a10, .ref a11, .ref a12, .ref a13]))] sz) := by
  refine xm_of (QQ := QR (dC, dI) [(a0, .inr (4, [.int 1, .int 0, .ref a1, .ref a2, .ref a3, .ref a4, .int 0, .ref a5, .ref a6, .ref a7, .ref a8, .int 0, .int 0, .int 0, .int 0, .ref a9, .ref a10, .ref a11, .ref a12, .ref a13]))] (some (.int 0))) (by decide +kernel) (Nat.le_of_ble_eq_true rfl) ?_
  intro p e s m below meth c A ls hx hb hr hml hown hts hlocks hin hK hP hD hE hA hS hl
  have hown : s.vm.findClass RX4 = some m.cls := hown
  have hl : lv_has ls 4 [(0, .ref a0), (1, .int x0), (2, .int 0), (3, .int 1)] := hl
  have hP : va_P (dC, dI) vwCl [(a0, .inr (4, [.int 0, .int 0, .ref a1, .ref a2, .ref a3, .ref a4, .int 0, .ref a5, .ref a6, .ref a7, .ref a8, .int 0, .int 0, .int 0, .int 0, .ref a9, .ref a10, .ref a11, .ref a12, .ref a13]))] s.heap := hP
  refine lv_aload_n hx hb dX4_asks__0 rfl (lv_at hl 0 rfl) ?_
  refine lv_aload_n hx hb dX4_asks__1 rfl (lv_at hl 0 rfl) ?_
  refine va_get (D := (dC, dI)) (ci := 4) (v := .int 0) (C := RX4) (T := TX4) (N := 20) hx hb hts inX4 hown hK hP 0 rfl rfl 11 (by decide) (hts _ q698) (fun _ h9 => h9) rfl dX4_asks__2 ?_
  refine lv_if_ne (tgt := 12) hx hb dX4_asks__5 (by decide) (fun h9 => absurd (by decide) h9) (fun _ => ?_)
  refine lv_iconst (v := 1) hx hb dX4_asks__8 (by decide) ?_
  refine lv_goto (tgt := 38) hx hb dX4_asks__9 (by decide) ?_
  refine va_put (D := (dC, dI)) (ci := 4) (v := .int 1) (ty := .int) (C := RX4) (T := TX4) (N := 20) hx hb hts inX4 tyX4 tyX4_ok nmX4 hown hK hP hD hS 0 rfl rfl 0 (by decide) (hts _ q687) (fun _ h9 => h9) rfl (by decide +kernel) rfl rfl (Nat.le_of_ble_eq_true rfl) dX4_asks__38 (fun H locs hP hD hS => ?_)
  have hP : va_P (dC, dI) vwCl [(a0, .inr (4, [.int 1, .int 0, .ref a1, .ref a2, .ref a3, .ref a4, .int 0, .ref a5, .ref a6, .ref a7, .ref a8, .int 0, .int 0, .int 0, .int 0, .ref a9, .ref a10, .ref a11, .ref a12, .ref a13]))] H := hP
  have hD : va_D A [(a0, .inr (4, [.int 1, .int 0, .ref a1, .ref a2, .ref a3, .ref a4, .int 0, .ref a5, .ref a6, .ref a7, .ref a8, .int 0, .int 0, .int 0, .int 0, .ref a9, .ref a10, .ref a11, .ref a12, .ref a13]))] := hD
  refine lv_aload_n hx hb dX4_asks__41 rfl (lv_at hl 0 rfl) ?_
  refine va_get (D := (dC, dI)) (ci := 4) (v := .int 1) (C := RX4) (T := TX4) (N := 20) hx hb hts inX4 hown hK hP 0 rfl rfl 0 (by decide) (hts _ q687) (fun _ h9 => h9) rfl dX4_asks__42 ?_
  refine lv_if_ne (tgt := 52) hx hb dX4_asks__45 (by decide) (fun _ => ?_) (fun h9 => absurd h9 (by decide))
  refine lv_iconst (v := 0) hx hb dX4_asks__52 (by decide) ?_
  exact xr_z hx hb hr hlocks hP hD hS [0] rfl (by decide) rfl (Nat.le_of_ble_eq_true rfl) (Nat.le_of_ble_eq_true rfl) dX4_asks__53
