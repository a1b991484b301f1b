set_option maxHeartbeats 4000000 in
set_option maxRecDepth 100000 in
theorem kX4_hasCycle_0 (l : Launch) (hfl : l.stackTraces = false) (dC : Nat → ClassId) (dI : Nat → Nat → Nat) (cI cZ cJ cD : ClassId) (a0 a1 a2 a3 a4 a5 a6 a7 a8 a9 a10 a11 a12 a13 : Nat) (sz : Nat) : Met l yX4_hasCycle (ws_ yX4_hasCycle cX4_hasCycle 7 (some .boolean)) (rm_ 2 0 0) (PC (dC, dI) (tyL cI cZ cJ cD) [(a0, .inr (4, [.int 0, .int 0, .ref a1, .ref a2, .ref a3, .ref a4, .int 0, .ref a5, .ref a6, .ref a7, .ref a8, .int 0, .int 0, .int 0, .int 0, .ref a9, .ref a10, .ref a11, .ref a12, .ref a13]))] sz [.ref a0]) (QR (dC, dI) [(a0, .inr (4, [.int 1, .int 0, .ref a1, .ref a2, .ref a3, .ref a4, .int 0, .ref a5, .ref a6, .ref a7, .ref a8, .int 0, .int 0, .int 0, .int 0, .ref a9, .ref a10, .ref a11, .ref a12, .ref a13]))] (some (.int 0)) (va_A [(a0, .inr (4, [.int 0, .int 0, .ref a1, .ref a2, .ref a3, .ref a4, .int 0, .ref a5, .ref a6, .ref a7, .ref a8, .int 0, .int 0, .int 0, .int 0, .ref a9, .ref a10, .ref a11, .ref a12, .ref a13]))] sz)) 0 0 (va_A [(a0, .inr (4, [.int 0, .int 0, .ref a1, .ref a2, .ref a3, .ref a4, .int 0, .ref a5, .ref a6, .ref a7, .ref a8, .int 0, .int 0, .int 0, .int 0, .ref a9, .ref a10, .ref a11, .ref a12, .ref a13]))] sz) := by
  refine xm_of (QQ := QR (dC, dI) [(a0, .inr (4, [.int 1, .int 0, .ref a1, .ref a2, .ref a3, .ref a4, .int 0, .ref a5, .ref a6, .ref a7, .ref a8, .int 0, .int 0, .int 0, .int 0, .ref a9, .ref a10, .ref a11, .ref a12, .ref a13]))] (some (.int 0))) (by decide +kernel) (Nat.le_of_ble_eq_true rfl) ?_
  intro p e s m below meth c A ls hx hb hr hml hown hts hlocks hin hK hP hD hE hA hS hl
  have hown : s.vm.findClass RX4 = some m.cls := hown
  have hl : lv_has ls 7 [(0, .ref a0)] := hl
  have hP : va_P (dC, dI) vwCl [(a0, .inr (4, [.int 0, .int 0, .ref a1, .ref a2, .ref a3, .ref a4, .int 0, .ref a5, .ref a6, .ref a7, .ref a8, .int 0, .int 0, .int 0, .int 0, .ref a9, .ref a10, .ref a11, .ref a12, .ref a13]))] s.heap := hP
  refine lv_aload_n hx hb dX4_hasCycle_0 rfl (lv_at hl 0 rfl) ?_
  refine xc_V (b := a0) (wc := [(a0, .inr (4, [.int 0, .int 0, .ref a1, .ref a2, .ref a3, .ref a4, .int 0, .ref a5, .ref a6, .ref a7, .ref a8, .int 0, .int 0, .int 0, .int 0, .ref a9, .ref a10, .ref a11, .ref a12, .ref a13]))]) (As := []) (rest := []) (wr := []) ⟨hx, hb, hml, hown, hts⟩ (kX4_asks_0 l hfl dC dI cI cZ cJ cD a0 a1 a2 a3 a4 a5 a6 a7 a8 a9 a10 a11 a12 a13 _) q869 okX4_asks hP hD hK hE hS hA [0] [] rfl rfl (by decide) (by decide) (by decide) (ci := 4) rfl 0 rfl rfl rfl hl.1 rfl (Nat.le_of_ble_eq_true rfl) ⟨rfl, rfl⟩ ⟨Nat.le_of_ble_eq_true rfl, Nat.le_of_ble_eq_true rfl⟩ ⟨Nat.le_of_ble_eq_true rfl, Nat.le_of_ble_eq_true rfl⟩ dX4_hasCycle_1 (fun H locs hP hD hS => ?_)
  have hP : va_P (dC, dI) vwCl [(a0, .inr (4, [.int 1, .int 0, .ref a1, .ref a2, .ref a3, .ref a4, .int 0, .ref a5, .ref a6, .ref a7, .ref a8, .int 0, .int 0, .int 0, .int 0, .ref a9, .ref a10, .ref a11, .ref a12, .ref a13]))] H := hP
  have hD : va_D A [(a0, .inr (4, [.int 1, .int 0, .ref a1, .ref a2, .ref a3, .ref a4, .int 0, .ref a5, .ref a6, .ref a7, .ref a8, .int 0, .int 0, .int 0, .int 0, .ref a9, .ref a10, .ref a11, .ref a12, .ref a13]))] := hD
  refine W.eq (g2 := F0 m 4 ls [.int 0]) rfl ?_
  refine lv_if_ne (tgt := 9) hx hb dX4_hasCycle_4 (by decide) (fun h9 => absurd (by decide) h9) (fun _ => ?_)
  refine lv_iconst (v := 0) hx hb dX4_hasCycle_7 (by decide) ?_
  exact xr_z hx hb hr hlocks hP hD hS [0] rfl (by decide) rfl (Nat.le_of_ble_eq_true rfl) (Nat.le_of_ble_eq_true rfl) dX4_hasCycle_8
set_option maxHeartbeats 4000000 in
set_option maxRecDepth 100000 in
theorem kX3_ways_0 (l : Launch) (hfl : l.stackTraces = false) (dC : Nat → ClassId) (dI : Nat → Nat → Nat) (cI cZ cJ cD : ClassId) (a0 a1 a2 a3 : Nat) (x0 : Int32) (sz : Nat) : vx_Met l yX3_ways (ws_ yX3_ways cX3_ways 2 (some .long)) (rm_ 2 1 6) (PC (dC, dI) (tyL cI cZ cJ cD) [(a0, .inr (3, [.ref a1, .ref a2, .ref a3, .int 0]))] sz [.ref a0, .int x0]) QN (XR nISE (va_A [(a0, .inr (3, [.ref a1, .ref a2, .ref a3, .int 0]))] sz)) 1 6 (va_A [(a0, .inr (3, [.ref a1, .ref a2, .ref a3, .int 0]))] sz) := by
  refine xm_x (cls := nISE) (by decide +kernel) (Nat.le_of_ble_eq_true rfl) ?_
  intro p e s m below meth c A ls hx hb hr hml hown hts hlocks hno hK hP hD hE hA hS hl
  have hown : s.vm.findClass RX3 = some m.cls := hown
  have hl : lv_has ls 2 [(0, .ref a0), (1, .int x0)] := hl
  have hP : va_P (dC, dI) vwCl [(a0, .inr (3, [.ref a1, .ref a2, .ref a3, .int 0]))] s.heap := hP
  refine lv_aload_n hx hb dX3_ways_0 rfl (lv_at hl 0 rfl) ?_
  refine xx_V (b := a0) (wc := [(a0, .inr (3, [.ref a1, .ref a2, .ref a3, .int 0]))]) (As := []) (rest := []) (wr := []) ⟨hx, hb, hml, hown, hts⟩ (kX3_requireExploration_0 l hfl dC dI cI cZ cJ cD a0 a1 a2 a3 _) q556 okX3_requireExploration hP hD hK hE hS hA [0] [] rfl rfl (by decide) (by decide) (by decide) (ci := 3) rfl 0 rfl rfl rfl hl.1 rfl (Nat.le_of_ble_eq_true rfl) ⟨rfl, rfl⟩ ⟨Nat.le_of_ble_eq_true rfl, Nat.le_of_ble_eq_true rfl⟩ ⟨Nat.le_of_ble_eq_true rfl, Nat.le_of_ble_eq_true rfl⟩ dX3_ways_1 (fun q9 ce H locs h1 h2 h3 hP hD hS => ?_)
  exact xx_out hno hlocks h1 h2 h3 hS (Nat.le_of_ble_eq_true rfl) (Nat.le_of_ble_eq_true rfl)
set_option maxHeartbeats 4000000 in
set_option maxRecDepth 100000 in
theorem kL_ways_0 (l : Launch) (hfl : l.stackTraces = false) (dC : Nat → ClassId) (dI : Nat → Nat → Nat) (cI cZ cJ cD : ClassId) (a0 a1 a2 a3 a4 : Nat) (x0 : Int32) (sz : Nat) : Met l yL_ways (wh_ yL_ways cL_ways 4 (some .int) [(0, 8, 11, 15), (0, 8, 14, 13)]) (rm_ 3 1 6) (PC (dC, dI) (tyL cI cZ cJ cD) [(a0, .inr (3, [.ref a2, .ref a3, .ref a4, .int 0]))] sz [.ref a0, .int x0, .ref a1]) (QR (dC, dI) [] (some (.int 1)) (va_A [(a0, .inr (3, [.ref a2, .ref a3, .ref a4, .int 0]))] sz)) 1 6 (va_A [(a0, .inr (3, [.ref a2, .ref a3, .ref a4, .int 0]))] sz) := by
  refine xm_h (QQ := QR (dC, dI) [] (some (.int 1))) (by decide +kernel) (Nat.le_of_ble_eq_true rfl) ?_
  intro p e s m below meth c A ls hx hb hr hml hown hts hlocks htab hK hP hD hE hA hS hl
  have hown : s.vm.findClass RL = some m.cls := hown
  have hl : lv_has ls 4 [(0, .ref a0), (1, .int x0), (2, .ref a1)] := hl
  have hP : va_P (dC, dI) vwCl [(a0, .inr (3, [.ref a2, .ref a3, .ref a4, .int 0]))] s.heap := hP
  refine lv_aload_n hx hb dL_ways_0 rfl (lv_at hl 2 rfl) ?_
  refine lv_iconst (v := 0) hx hb dL_ways_1 (by decide) ?_
  refine lv_aload_n hx hb dL_ways_2 rfl (lv_at hl 0 rfl) ?_
  refine lv_iload_n hx hb dL_ways_3 rfl (lv_at hl 1 rfl) ?_
  refine xx_V (b := a0) (wc := [(a0, .inr (3, [.ref a2, .ref a3, .ref a4, .int 0]))]) (As := [.int x0]) (rest := [.int 0, .ref a1]) (wr := []) ⟨hx, hb, hml, hown, hts⟩ (kX3_ways_0 l hfl dC dI cI cZ cJ cD a0 a2 a3 a4 x0 _) q660 okX3_ways hP hD hK hE hS hA [0] [] rfl rfl (by decide) (by decide) (by decide) (ci := 3) rfl 0 rfl rfl rfl hl.1 rfl (Nat.le_of_ble_eq_true rfl) ⟨rfl, rfl⟩ ⟨Nat.le_of_ble_eq_true rfl, Nat.le_of_ble_eq_true rfl⟩ ⟨Nat.le_of_ble_eq_true rfl, Nat.le_of_ble_eq_true rfl⟩ dL_ways_4 (fun q9 ce H locs h1 h2 h3 hP hD hS => ?_)
  refine vx_catch (own := RL) (name := nISE) (E := nISE) hown [] ⟨0, 8, 11, 15⟩ [⟨0, 8, 14, 13⟩] htab (fun z hz => by cases hz) (by decide) (by decide) (hts _ q392) (hE.2.2.cISE.use rfl) h1 h2 h3 ?_
  refine W.eq (g2 := F0 m 11 ls [.ref q9]) rfl ?_
  refine lv_astore_n (lv' := [(3, .ref q9), (0, .ref a0), (1, .int x0), (2, .ref a1)]) hx hb dL_ways_11 rfl hl (by decide) rfl (fun ls hl => ?_)
  refine lv_iconst (v := 1) hx hb dL_ways_12 (by decide) ?_
  exact xr_i hx hb hr hlocks hP hD hS [] rfl (by decide) (Nat.le_of_ble_eq_true rfl) (Nat.le_of_ble_eq_true rfl) dL_ways_13
set_option maxHeartbeats 4000000 in
set_option maxRecDepth 100000 in
theorem kX4_ways_0 (l : Launch) (hfl : l.stackTraces = false) (dC : Nat → ClassId) (dI : Nat → Nat → Nat) (cI cZ cJ cD : ClassId) (a0 a1 a2 a3 a4 a5 a6 a7 a8 a9 a10 a11 a12 a13 : Nat) (x0 : Int32) (sz : Nat) : Met l yX4_ways (ws_ yX4_ways cX4_ways 7 (some .long)) (rm_ 1 0 0) (PC (dC, dI) (tyL cI cZ cJ cD) [(a0, .inr (4, [.int 0, .int 0, .ref a1, .ref a2, .ref a3, .ref a4, .int 0, .ref a5, .ref a6, .ref a7, .ref a8, .int 0, .int 0, .int 0, .int 0, .ref a9, .ref a10, .ref a11, .ref a12, .ref a13]))] sz [.ref a0, .int x0]) (QR (dC, dI) [(a0, .inr (4, [.int 1, .int 0, .ref a1, .ref a2, .ref a3, .ref a4, .int 0, .ref a5, .ref a6, .ref a7, .ref a8, .int 0, .int 0, .int 0, .int 0, .ref a9, .ref a10, .ref a11, .ref a12, .ref a13]))] (some (.long 0)) (va_A [(a0, .inr (4, [.int 0, .int 0, .ref a1, .ref a2, .ref a3, .ref a4, .int 0, .ref a5, .ref a6, .ref a7, .ref a8, .int 0, .int 0, .int 0, .int 0, .ref a9, .ref a10, .ref a11, .ref a12, .ref a13]))] sz)) 0 0 (va_A [(a0, .inr (4, [.int 0, .int 0, .ref a1, .ref a2, .ref a3, .ref a4, .int 0, .ref a5, .ref a6, .ref a7, .ref a8, .int 0, .int 0, .int 0, .int 0, .ref a9, .ref a10, .ref a11, .ref a12, .ref a13]))] sz) := by
  refine xm_of (QQ := QR (dC, dI) [(a0, .inr (4, [.int 1, .int 0, .ref a1, .ref a2, .ref a3, .ref a4, .int 0, .ref a5, .ref a6, .ref a7, .ref a8, .int 0, .int 0, .int 0, .int 0, .ref a9, .ref a10, .ref a11, .ref a12, .ref a13]))] (some (.long 0))) (by decide +kernel) (Nat.le_of_ble_eq_true rfl) ?_
  intro p e s m below meth c A ls hx hb hr hml hown hts hlocks hin hK hP hD hE hA hS hl
  have hown : s.vm.findClass RX4 = some m.cls := hown
  have hl : lv_has ls 7 [(0, .ref a0), (1, .int x0)] := hl
  have hP : va_P (dC, dI) vwCl [(a0, .inr (4, [.int 0, .int 0, .ref a1, .ref a2, .ref a3, .ref a4, .int 0, .ref a5, .ref a6, .ref a7, .ref a8, .int 0, .int 0, .int 0, .int 0, .ref a9, .ref a10, .ref a11, .ref a12, .ref a13]))] s.heap := hP
  refine lv_aload_n hx hb dX4_ways_0 rfl (lv_at hl 0 rfl) ?_
  refine lv_aload_n hx hb dX4_ways_1 rfl (lv_at hl 0 rfl) ?_
  refine va_get (D := (dC, dI)) (ci := 4) (v := .int 0) (C := RX4) (T := TX4) (N := 20) hx hb hts inX4 hown hK hP 0 rfl rfl 11 (by decide) (hts _ q698) (fun _ h9 => h9) rfl dX4_ways_2 ?_
  refine lv_if_ne (tgt := 12) hx hb dX4_ways_5 (by decide) (fun h9 => absurd (by decide) h9) (fun _ => ?_)
  refine lv_iconst (v := 1) hx hb dX4_ways_8 (by decide) ?_
  refine lv_goto (tgt := 27) hx hb dX4_ways_9 (by decide) ?_
  refine va_put (D := (dC, dI)) (ci := 4) (v := .int 1) (ty := .int) (C := RX4) (T := TX4) (N := 20) hx hb hts inX4 tyX4 tyX4_ok nmX4 hown hK hP hD hS 0 rfl rfl 0 (by decide) (hts _ q687) (fun _ h9 => h9) rfl (by decide +kernel) rfl rfl (Nat.le_of_ble_eq_true rfl) dX4_ways_27 (fun H locs hP hD hS => ?_)
  have hP : va_P (dC, dI) vwCl [(a0, .inr (4, [.int 1, .int 0, .ref a1, .ref a2, .ref a3, .ref a4, .int 0, .ref a5, .ref a6, .ref a7, .ref a8, .int 0, .int 0, .int 0, .int 0, .ref a9, .ref a10, .ref a11, .ref a12, .ref a13]))] H := hP
  have hD : va_D A [(a0, .inr (4, [.int 1, .int 0, .ref a1, .ref a2, .ref a3, .ref a4, .int 0, .ref a5, .ref a6, .ref a7, .ref a8, .int 0, .int 0, .int 0, .int 0, .ref a9, .ref a10, .ref a11, .ref a12, .ref a13]))] := hD
  refine lv_aload_n hx hb dX4_ways_30 rfl (lv_at hl 0 rfl) ?_
  refine va_get (D := (dC, dI)) (ci := 4) (v := .int 1) (C := RX4) (T := TX4) (N := 20) hx hb hts inX4 hown hK hP 0 rfl rfl 0 (by decide) (hts _ q687) (fun _ h9 => h9) rfl dX4_ways_31 ?_
  refine lv_if_eq (tgt := 39) hx hb dX4_ways_34 (by decide) (fun h9 => absurd h9 (by decide)) (fun _ => ?_)
  refine lv_lconst (v := 0) hx hb dX4_ways_37 (by decide) ?_
  exact xr_l hx hb hr hlocks hP hD hS [0] rfl (by decide) (Nat.le_of_ble_eq_true rfl) (Nat.le_of_ble_eq_true rfl) dX4_ways_38
set_option maxHeartbeats 4000000 in
set_option maxRecDepth 100000 in
theorem kX3_rest_0 (l : Launch) (hfl : l.stackTraces = false) (dC : Nat → ClassId) (dI : Nat → Nat → Nat) (cI cZ cJ cD : ClassId) (a0 a1 a2 a3 : Nat) (sz : Nat) : vx_Met l yX3_rest (ws_ yX3_rest cX3_rest 3 (some .double)) (rm_ 2 1 6) (PC (dC, dI) (tyL cI cZ cJ cD) [(a0, .inr (3, [.ref a1, .ref a2, .ref a3, .int 0]))] sz [.ref a0]) QN (XR nISE (va_A [(a0, .inr (3, [.ref a1, .ref a2, .ref a3, .int 0]))] sz)) 1 6 (va_A [(a0, .inr (3, [.ref a1, .ref a2, .ref a3, .int 0]))] sz) := by
  refine xm_x (cls := nISE) (by decide +kernel) (Nat.le_of_ble_eq_true rfl) ?_
  intro p e s m below meth c A ls hx hb hr hml hown hts hlocks hno hK hP hD hE hA hS hl
  have hown : s.vm.findClass RX3 = some m.cls := hown
  have hl : lv_has ls 3 [(0, .ref a0)] := hl
  have hP : va_P (dC, dI) vwCl [(a0, .inr (3, [.ref a1, .ref a2, .ref a3, .int 0]))] s.heap := hP
  refine lv_aload_n hx hb dX3_rest_0 rfl (lv_at hl 0 rfl) ?_
  refine xx_V (b := a0) (wc := [(a0, .inr (3, [.ref a1, .ref a2, .ref a3, .int 0]))]) (As := []) (rest := []) (wr := []) ⟨hx, hb, hml, hown, hts⟩ (kX3_requireExploration_0 l hfl dC dI cI cZ cJ cD a0 a1 a2 a3 _) q556 okX3_requireExploration hP hD hK hE hS hA [0] [] rfl rfl (by decide) (by decide) (by decide) (ci := 3) rfl 0 rfl rfl rfl hl.1 rfl (Nat.le_of_ble_eq_true rfl) ⟨rfl, rfl⟩ ⟨Nat.le_of_ble_eq_true rfl, Nat.le_of_ble_eq_true rfl⟩ ⟨Nat.le_of_ble_eq_true rfl, Nat.le_of_ble_eq_true rfl⟩ dX3_rest_1 (fun q9 ce H locs h1 h2 h3 hP hD hS => ?_)
  exact xx_out hno hlocks h1 h2 h3 hS (Nat.le_of_ble_eq_true rfl) (Nat.le_of_ble_eq_true rfl)
set_option maxHeartbeats 4000000 in
set_option maxRecDepth 100000 in
theorem kL_rest_0 (l : Launch) (hfl : l.stackTraces = false) (dC : Nat → ClassId) (dI : Nat → Nat → Nat) (cI cZ cJ cD : ClassId) (a0 a1 a2 a3 a4 : Nat) (sz : Nat) : Met l yL_rest (wh_ yL_rest cL_rest 3 (some .int) [(0, 7, 10, 15)]) (rm_ 3 1 6) (PC (dC, dI) (tyL cI cZ cJ cD) [(a0, .inr (3, [.ref a2, .ref a3, .ref a4, .int 0]))] sz [.ref a0, .ref a1]) (QR (dC, dI) [] (some (.int 1)) (va_A [(a0, .inr (3, [.ref a2, .ref a3, .ref a4, .int 0]))] sz)) 1 6 (va_A [(a0, .inr (3, [.ref a2, .ref a3, .ref a4, .int 0]))] sz) := by
  refine xm_h (QQ := QR (dC, dI) [] (some (.int 1))) (by decide +kernel) (Nat.le_of_ble_eq_true rfl) ?_
  intro p e s m below meth c A ls hx hb hr hml hown hts hlocks htab hK hP hD hE hA hS hl
  have hown : s.vm.findClass RL = some m.cls := hown
  have hl : lv_has ls 3 [(0, .ref a0), (1, .ref a1)] := hl
  have hP : va_P (dC, dI) vwCl [(a0, .inr (3, [.ref a2, .ref a3, .ref a4, .int 0]))] s.heap := hP
  refine lv_aload_n hx hb dL_rest_0 rfl (lv_at hl 1 rfl) ?_
  refine lv_iconst (v := 0) hx hb dL_rest_1 (by decide) ?_
  refine lv_aload_n hx hb dL_rest_2 rfl (lv_at hl 0 rfl) ?_
  refine xx_V (b := a0) (wc := [(a0, .inr (3, [.ref a2, .ref a3, .ref a4, .int 0]))]) (As := []) (rest := [.int 0, .ref a1]) (wr := []) ⟨hx, hb, hml, hown, hts⟩ (kX3_rest_0 l hfl dC dI cI cZ cJ cD a0 a2 a3 a4 _) q676 okX3_rest hP hD hK hE hS hA [0] [] rfl rfl (by decide) (by decide) (by decide) (ci := 3) rfl 0 rfl rfl rfl hl.1 rfl (Nat.le_of_ble_eq_true rfl) ⟨rfl, rfl⟩ ⟨Nat.le_of_ble_eq_true rfl, Nat.le_of_ble_eq_true rfl⟩ ⟨Nat.le_of_ble_eq_true rfl, Nat.le_of_ble_eq_true rfl⟩ dL_rest_3 (fun q9 ce H locs h1 h2 h3 hP hD hS => ?_)
  refine vx_catch (own := RL) (name := nISE) (E := nISE) hown [] ⟨0, 7, 10, 15⟩ [] htab (fun z hz => by cases hz) (by decide) (by decide) (hts _ q392) (hE.2.2.cISE.use rfl) h1 h2 h3 ?_
  refine W.eq (g2 := F0 m 10 ls [.ref q9]) rfl ?_
  refine lv_astore_n (lv' := [(2, .ref q9), (0, .ref a0), (1, .ref a1)]) hx hb dL_rest_10 rfl hl (by decide) rfl (fun ls hl => ?_)
  refine lv_iconst (v := 1) hx hb dL_rest_11 (by decide) ?_
  exact xr_i hx hb hr hlocks hP hD hS [] rfl (by decide) (Nat.le_of_ble_eq_true rfl) (Nat.le_of_ble_eq_true rfl) dL_rest_12
set_option maxHeartbeats 4000000 in
set_option maxRecDepth 100000 in
theorem kX4_rest_0 (l : Launch) (hfl : l.stackTraces = false) (dC : Nat → ClassId) (dI : Nat → Nat → Nat) (cI cZ cJ cD : ClassId) (a0 a1 a2 a3 a4 a5 a6 a7 a8 a9 a10 a11 a12 a13 : Nat) (sz : Nat) : Met l yX4_rest (ws_ yX4_rest cX4_rest 3 (some .double)) (rm_ 2 0 0) (PC (dC, dI) (tyL cI cZ cJ cD) [(a0, .inr (4, [.int 0, .int 0, .ref a1, .ref a2, .ref a3, .ref a4, .int 0, .ref a5, .ref a6, .ref a7, .ref a8, .int 0, .int 0, .int 0, .int 0, .ref a9, .ref a10, .ref a11, .ref a12, .ref a13]))] sz [.ref a0]) (QR (dC, dI) [(a0, .inr (4, [.int 1, .int 0, .ref a1, .ref a2, .ref a3, .ref a4, .int 0, .ref a5, .ref a6, .ref a7, .ref a8, .int 0, .int 0, .int 0, .int 0, .ref a9, .ref a10, .ref a11, .ref a12, .ref a13]))] (some (.double FP.dconst0)) (va_A [(a0, .inr (4, [.int 0, .int 0, .ref a1, .ref a2, .ref a3, .ref a4, .int 0, .ref a5, .ref a6, .ref a7, .ref a8, .int 0, .int 0, .int 0, .int 0, .ref a9, .ref a10, .ref a11, .ref a12, .ref a13]))] sz)) 0 0 (va_A [(a0, .inr (4, [.int 0, .int 0, .ref a1, .ref a2, .ref a3, .ref a4, .int 0, .ref a5, .ref a6, .ref a7, .ref a8, .int 0, .int 0, .int 0, .int 0, .ref a9, .ref a10, .ref a11, .ref a12, .ref a13]))] sz) := by
  refine xm_of (QQ := QR (dC, dI) [(a0, .inr (4, [.int 1, .int 0, .ref a1, .ref a2, .ref a3, .ref a4, .int 0, .ref a5, .ref a6, .ref a7, .ref a8, .int 0, .int 0, .int 0, .int 0, .ref a9, .ref a10, .ref a11, .ref a12, .ref a13]))] (some (.double FP.dconst0))) (by decide +kernel) (Nat.le_of_ble_eq_true rfl) ?_
  intro p e s m below meth c A ls hx hb hr hml hown hts hlocks hin hK hP hD hE hA hS hl
  have hown : s.vm.findClass RX4 = some m.cls := hown
  have hl : lv_has ls 3 [(0, .ref a0)] := hl
  have hP : va_P (dC, dI) vwCl [(a0, .inr (4, [.int 0, .int 0, .ref a1, .ref a2, .ref a3, .ref a4, .int 0, .ref a5, .ref a6, .ref a7, .ref a8, .int 0, .int 0, .int 0, .int 0, .ref a9, .ref a10, .ref a11, .ref a12, .ref a13]))] s.heap := hP
  refine lv_aload_n hx hb dX4_rest_0 rfl (lv_at hl 0 rfl) ?_
  refine xc_V (b := a0) (wc := [(a0, .inr (4, [.int 0, .int 0, .ref a1, .ref a2, .ref a3, .ref a4, .int 0, .ref a5, .ref a6, .ref a7, .ref a8, .int 0, .int 0, .int 0, .int 0, .ref a9, .ref a10, .ref a11, .ref a12, .ref a13]))]) (As := []) (rest := []) (wr := []) ⟨hx, hb, hml, hown, hts⟩ (kX4_asks_0 l hfl dC dI cI cZ cJ cD a0 a1 a2 a3 a4 a5 a6 a7 a8 a9 a10 a11 a12 a13 _) q869 okX4_asks hP hD hK hE hS hA [0] [] rfl rfl (by decide) (by decide) (by decide) (ci := 4) rfl 0 rfl rfl rfl hl.1 rfl (Nat.le_of_ble_eq_true rfl) ⟨rfl, rfl⟩ ⟨Nat.le_of_ble_eq_true rfl, Nat.le_of_ble_eq_true rfl⟩ ⟨Nat.le_of_ble_eq_true rfl, Nat.le_of_ble_eq_true rfl⟩ dX4_rest_1 (fun H locs hP hD hS => ?_)
  have hP : va_P (dC, dI) vwCl [(a0, .inr (4, [.int 1, .int 0, .ref a1, .ref a2, .ref a3, .ref a4, .int 0, .ref a5, .ref a6, .ref a7, .ref a8, .int 0, .int 0, .int 0, .int 0, .ref a9, .ref a10, .ref a11, .ref a12, .ref a13]))] H := hP
  have hD : va_D A [(a0, .inr (4, [.int 1, .int 0, .ref a1, .ref a2, .ref a3, .ref a4, .int 0, .ref a5, .ref a6, .ref a7, .ref a8, .int 0, .int 0, .int 0, .int 0, .ref a9, .ref a10, .ref a11, .ref a12, .ref a13]))] := hD
  refine W.eq (g2 := F0 m 4 ls [.int 0]) rfl ?_
  refine lv_if_ne (tgt := 9) hx hb dX4_rest_4 (by decide) (fun h9 => absurd (by decide) h9) (fun _ => ?_)
  refine lv_dconst0 hx hb dX4_rest_7 ?_
  exact xr_d hx hb hr hlocks hP hD hS [0] rfl (by decide) (Nat.le_of_ble_eq_true rfl) (Nat.le_of_ble_eq_true rfl) dX4_rest_8
set_option maxHeartbeats 4000000 in
set_option maxRecDepth 100000 in
theorem kX3_digest_0 (l : Launch) (hfl : l.stackTraces = false) (dC : Nat → ClassId) (dI : Nat → Nat → Nat) (cI cZ cJ cD : ClassId) (a0 a1 a2 a3 a4 a5 a6 a7 a8 a9 a10 a11 a12 a13 a14 : Nat) (sz : Nat) : Met l yX3_digest (ws_ yX3_digest cX3_digest 4 (some .long)) (rm_ 1 0 0) (PC (dC, dI) (tyL cI cZ cJ cD) [(a0, .inr (3, [.ref a1, .ref a2, .ref a3, .int 0])), (a1, .inr (1, [.int 0, .ref a4, .ref a5, .ref a6, .ref a7, .ref a8, .ref a9, .ref a10, .int 0, .ref a11, .ref a12, .ref a13, .ref a14]))] sz [.ref a0]) (QR (dC, dI) [(a0, .inr (3, [.ref a1, .ref a2, .ref a3, .int 0])), (a1, .inr (1, [.int 0, .ref a4, .ref a5, .ref a6, .ref a7, .ref a8, .ref a9, .ref a10, .int 0, .ref a11, .ref a12, .ref a13, .ref a14]))] (some (.long 125891)) (va_A [(a0, .inr (3, [.ref a1, .ref a2, .ref a3, .int 0])), (a1, .inr (1, [.int 0, .ref a4, .ref a5, .ref a6, .ref a7, .ref a8, .ref a9, .ref a10, .int 0, .ref a11, .ref a12, .ref a13, .ref a14]))] sz)) 0 0 (va_A [(a0, .inr (3, [.ref a1, .ref a2, .ref a3, .int 0])), (a1, .inr (1, [.int 0, .ref a4, .ref a5, .ref a6, .ref a7, .ref a8, .ref a9, .ref a10, .int 0, .ref a11, .ref a12, .ref a13, .ref a14]))] sz) := by
  refine xm_of (QQ := QR (dC, dI) [(a0, .inr (3, [.ref a1, .ref a2, .ref a3, .int 0])), (a1, .inr (1, [.int 0, .ref a4, .ref a5, .ref a6, .ref a7, .ref a8, .ref a9, .ref a10, .int 0, .ref a11, .ref a12, .ref a13, .ref a14]))] (some (.long 125891))) (by decide +kernel) (Nat.le_of_ble_eq_true rfl) ?_
  intro p e s m below meth c A ls hx hb hr hml hown hts hlocks hin hK hP hD hE hA hS hl
  have hown : s.vm.findClass RX3 = some m.cls := hown
  have hl : lv_has ls 4 [(0, .ref a0)] := hl
  have hP : va_P (dC, dI) vwCl [(a0, .inr (3, [.ref a1, .ref a2, .ref a3, .int 0])), (a1, .inr (1, [.int 0, .ref a4, .ref a5, .ref a6, .ref a7, .ref a8, .ref a9, .ref a10, .int 0, .ref a11, .ref a12, .ref a13, .ref a14]))] s.heap := hP
  refine lv_ldc2 (v := 131) hx hb hown (hts _ q375) dX3_digest_0 ?_
  refine lv_lstore_n (lv' := [(1, .long 131), (0, .ref a0)]) hx hb dX3_digest_3 rfl hl (by decide) rfl (fun ls hl => ?_)
  refine lv_lload_n hx hb dX3_digest_4 rfl (lv_at hl 0 rfl) ?_
  refine lv_ldc2 (v := 31) hx hb hown (hts _ q376) dX3_digest_5 ?_
  refine lv_lmul hx hb dX3_digest_8 ?_
  refine tJ (v := 4061) (by decide +kernel) ?_
  refine lv_aload_n hx hb dX3_digest_9 rfl (lv_at hl 1 rfl) ?_
  refine va_get (D := (dC, dI)) (ci := 3) (v := .ref a1) (C := RX3) (T := TX3) (N := 4) hx hb hts inX3 hown hK hP 0 rfl rfl 0 (by decide) (hts _ q164) (fun _ h9 => h9) rfl dX3_digest_10 ?_
  refine va_get (D := (dC, dI)) (ci := 1) (v := .int 0) (C := RX1) (T := TX1) (N := 13) hx hb hts inX1 hown hK hP 1 rfl rfl 0 (by decide) (hts _ q31) (fun _ h9 => h9) rfl dX3_digest_13 ?_
  refine lv_i2l (v := 0) hx hb dX3_digest_16 (by decide +kernel) ?_
  refine lv_ladd hx hb dX3_digest_17 ?_
  refine tJ (v := 4061) (by decide +kernel) ?_
  refine lv_lstore_n (lv' := [(1, .long 4061), (0, .ref a0)]) hx hb dX3_digest_18 rfl hl (by decide) rfl (fun ls hl => ?_)
  refine lv_iconst (v := 0) hx hb dX3_digest_19 (by decide) ?_
  refine lv_istore_n (lv' := [(3, .int 0), (1, .long 4061), (0, .ref a0)]) hx hb dX3_digest_20 rfl hl (by decide) rfl (fun ls hl => ?_)
  refine lv_iload_n hx hb dX3_digest_21 rfl (lv_at hl 0 rfl) ?_
  refine lv_aload_n hx hb dX3_digest_22 rfl (lv_at hl 2 rfl) ?_
  refine va_get (D := (dC, dI)) (ci := 3) (v := .ref a1) (C := RX3) (T := TX3) (N := 4) hx hb hts inX3 hown hK hP 0 rfl rfl 0 (by decide) (hts _ q164) (fun _ h9 => h9) rfl dX3_digest_23 ?_
  refine va_get (D := (dC, dI)) (ci := 1) (v := .int 0) (C := RX1) (T := TX1) (N := 13) hx hb hts inX1 hown hK hP 1 rfl rfl 0 (by decide) (hts _ q31) (fun _ h9 => h9) rfl dX3_digest_26 ?_
  refine lv_icmp_ge (tgt := 106) hx hb dX3_digest_29 (by decide) (fun _ => ?_) (fun h9 => absurd (by decide) h9)
  refine lv_lload_n hx hb dX3_digest_106 rfl (lv_at hl 1 rfl) ?_
  refine lv_ldc2 (v := 31) hx hb hown (hts _ q376) dX3_digest_107 ?_
  refine lv_lmul hx hb dX3_digest_110 ?_
  refine tJ (v := 125891) (by decide +kernel) ?_
  refine lv_aload_n hx hb dX3_digest_111 rfl (lv_at hl 2 rfl) ?_
  refine va_get (D := (dC, dI)) (ci := 3) (v := .ref a1) (C := RX3) (T := TX3) (N := 4) hx hb hts inX3 hown hK hP 0 rfl rfl 0 (by decide) (hts _ q164) (fun _ h9 => h9) rfl dX3_digest_112 ?_
  refine va_get (D := (dC, dI)) (ci := 1) (v := .int 0) (C := RX1) (T := TX1) (N := 13) hx hb hts inX1 hown hK hP 1 rfl rfl 8 (by decide) (hts _ q45) (fun _ h9 => h9) rfl dX3_digest_115 ?_
  refine lv_i2l (v := 0) hx hb dX3_digest_118 (by decide +kernel) ?_
  refine lv_ladd hx hb dX3_digest_119 ?_
  refine tJ (v := 125891) (by decide +kernel) ?_
  refine lv_lstore_n (lv' := [(1, .long 125891), (3, .int 0), (0, .ref a0)]) hx hb dX3_digest_120 rfl hl (by decide) rfl (fun ls hl => ?_)
  refine lv_iconst (v := 0) hx hb dX3_digest_121 (by decide) ?_
  refine lv_istore_n (lv' := [(3, .int 0), (1, .long 125891), (0, .ref a0)]) hx hb dX3_digest_122 rfl hl (by decide) rfl (fun ls hl => ?_)
  refine lv_iload_n hx hb dX3_digest_123 rfl (lv_at hl 0 rfl) ?_
  refine lv_aload_n hx hb dX3_digest_124 rfl (lv_at hl 2 rfl) ?_
  refine va_get (D := (dC, dI)) (ci := 3) (v := .ref a1) (C := RX3) (T := TX3) (N := 4) hx hb hts inX3 hown hK hP 0 rfl rfl 0 (by decide) (hts _ q164) (fun _ h9 => h9) rfl dX3_digest_125 ?_
  refine va_get (D := (dC, dI)) (ci := 1) (v := .int 0) (C := RX1) (T := TX1) (N := 13) hx hb hts inX1 hown hK hP 1 rfl rfl 8 (by decide) (hts _ q45) (fun _ h9 => h9) rfl dX3_digest_128 ?_
  refine lv_icmp_ge (tgt := 157) hx hb dX3_digest_131 (by decide) (fun _ => ?_) (fun h9 => absurd (by decide) h9)
  refine lv_aload_n hx hb dX3_digest_157 rfl (lv_at hl 2 rfl) ?_
  refine va_get (D := (dC, dI)) (ci := 3) (v := .int 0) (C := RX3) (T := TX3) (N := 4) hx hb hts inX3 hown hK hP 0 rfl rfl 3 (by decide) (hts _ q167) (fun _ h9 => h9) rfl dX3_digest_158 ?_
  refine lv_if_eq (tgt := 172) hx hb dX3_digest_161 (by decide) (fun _ => ?_) (fun h9 => absurd (by decide) h9)
  refine lv_lload_n hx hb dX3_digest_172 rfl (lv_at hl 1 rfl) ?_
  exact xr_l hx hb hr hlocks hP hD hS [0, 1] rfl (by decide) (Nat.le_of_ble_eq_true rfl) (Nat.le_of_ble_eq_true rfl) dX3_digest_173
set_option maxHeartbeats 4000000 in
set_option maxRecDepth 100000 in
theorem kX4_digest_0 (l : Launch) (hfl : l.stackTraces = false) (dC : Nat → ClassId) (dI : Nat → Nat → Nat) (cI cZ cJ cD : ClassId) (a0 a1 a2 a3 a4 a5 a6 a7 a8 a9 a10 a11 a12 a13 : Nat) (sz : Nat) : Met l yX4_digest (ws_ yX4_digest cX4_digest 5 (some .long)) (rm_ 1 0 0) (PC (dC, dI) (tyL cI cZ cJ cD) [(a0, .inr (4, [.int 0, .int 0, .ref a1, .ref a2, .ref a3, .ref a4, .int 0, .ref a5, .ref a6, .ref a7, .ref a8, .int 0, .int 0, .int 0, .int 0, .ref a9, .ref a10, .ref a11, .ref a12, .ref a13]))] sz [.ref a0]) (QR (dC, dI) [(a0, .inr (4, [.int 0, .int 0, .ref a1, .ref a2, .ref a3, .ref a4, .int 0, .ref a5, .ref a6, .ref a7, .ref a8, .int 0, .int 0, .int 0, .int 0, .ref a9, .ref a10, .ref a11, .ref a12, .ref a13]))] (some (.long 125891)) (va_A [(a0, .inr (4, [.int 0, .int 0, .ref a1, .ref a2, .ref a3, .ref a4, .int 0, .ref a5, .ref a6, .ref a7, .ref a8, .int 0, .int 0, .int 0, .int 0, .ref a9, .ref a10, .ref a11, .ref a12, .ref a13]))] sz)) 0 0 (va_A [(a0, .inr (4, [.int 0, .int 0, .ref a1, .ref a2, .ref a3, .ref a4, .int 0, .ref a5, .ref a6, .ref a7, .ref a8, .int 0, .int 0, .int 0, .int 0, .ref a9, .ref a10, .ref a11, .ref a12, .ref a13]))] sz) := by
  refine xm_of (QQ := QR (dC, dI) [(a0, .inr (4, [.int 0, .int 0, .ref a1, .ref a2, .ref a3, .ref a4, .int 0, .ref a5, .ref a6, .ref a7, .ref a8, .int 0, .int 0, .int 0, .int 0, .ref a9, .ref a10, .ref a11, .ref a12, .ref a13]))] (some (.long 125891))) (by decide +kernel) (Nat.le_of_ble_eq_true rfl) ?_
  intro p e s m below meth c A ls hx hb hr hml hown hts hlocks hin hK hP hD hE hA hS hl
  have hown : s.vm.findClass RX4 = some m.cls := hown
  have hl : lv_has ls 5 [(0, .ref a0)] := hl
  have hP : va_P (dC, dI) vwCl [(a0, .inr (4, [.int 0, .int 0, .ref a1, .ref a2, .ref a3, .ref a4, .int 0, .ref a5, .ref a6, .ref a7, .ref a8, .int 0, .int 0, .int 0, .int 0, .ref a9, .ref a10, .ref a11, .ref a12, .ref a13]))] s.heap := hP
  refine lv_aload_n hx hb dX4_digest_0 rfl (lv_at hl 0 rfl) ?_
  refine lv_iconst (v := 0) hx hb dX4_digest_1 (by decide) ?_
  refine va_put (D := (dC, dI)) (ci := 4) (v := .int 0) (ty := .int) (C := RX4) (T := TX4) (N := 20) hx hb hts inX4 tyX4 tyX4_ok nmX4 hown hK hP hD hS 0 rfl rfl 0 (by decide) (hts _ q687) (fun _ h9 => h9) rfl (by decide +kernel) rfl rfl (Nat.le_of_ble_eq_true rfl) dX4_digest_2 (fun H locs hP hD hS => ?_)
  have hP : va_P (dC, dI) vwCl [(a0, .inr (4, [.int 0, .int 0, .ref a1, .ref a2, .ref a3, .ref a4, .int 0, .ref a5, .ref a6, .ref a7, .ref a8, .int 0, .int 0, .int 0, .int 0, .ref a9, .ref a10, .ref a11, .ref a12, .ref a13]))] H := hP
  have hD : va_D A [(a0, .inr (4, [.int 0, .int 0, .ref a1, .ref a2, .ref a3, .ref a4, .int 0, .ref a5, .ref a6, .ref a7, .ref a8, .int 0, .int 0, .int 0, .int 0, .ref a9, .ref a10, .ref a11, .ref a12, .ref a13]))] := hD
  refine lv_ldc2 (v := 4061) hx hb hown (hts _ q941) dX4_digest_5 ?_
  refine lv_aload_n hx hb dX4_digest_8 rfl (lv_at hl 0 rfl) ?_
  refine va_get (D := (dC, dI)) (ci := 4) (v := .int 0) (C := RX4) (T := TX4) (N := 20) hx hb hts inX4 hown hK hP 0 rfl rfl 1 (by decide) (hts _ q688) (fun _ h9 => h9) rfl dX4_digest_9 ?_
  refine lv_i2l (v := 0) hx hb dX4_digest_12 (by decide +kernel) ?_
  refine lv_ladd hx hb dX4_digest_13 ?_
  refine tJ (v := 4061) (by decide +kernel) ?_
  refine lv_lstore_n (lv' := [(1, .long 4061), (0, .ref a0)]) hx hb dX4_digest_14 rfl hl (by decide) rfl (fun ls hl => ?_)
  refine lv_iconst (v := 0) hx hb dX4_digest_15 (by decide) ?_
  refine lv_istore_n (lv' := [(3, .int 0), (1, .long 4061), (0, .ref a0)]) hx hb dX4_digest_16 rfl hl (by decide) rfl (fun ls hl => ?_)
  refine lv_iload_n hx hb dX4_digest_17 rfl (lv_at hl 0 rfl) ?_
  refine lv_aload_n hx hb dX4_digest_18 rfl (lv_at hl 2 rfl) ?_
  refine va_get (D := (dC, dI)) (ci := 4) (v := .int 0) (C := RX4) (T := TX4) (N := 20) hx hb hts inX4 hown hK hP 0 rfl rfl 1 (by decide) (hts _ q688) (fun _ h9 => h9) rfl dX4_digest_19 ?_
  refine lv_icmp_ge (tgt := 81) hx hb dX4_digest_22 (by decide) (fun _ => ?_) (fun h9 => absurd (by decide) h9)
  refine lv_lload_n hx hb dX4_digest_81 rfl (lv_at hl 1 rfl) ?_
  refine lv_ldc2 (v := 31) hx hb hown (hts _ q942) dX4_digest_82 ?_
  refine lv_lmul hx hb dX4_digest_85 ?_
  refine tJ (v := 125891) (by decide +kernel) ?_
  refine lv_aload_n hx hb dX4_digest_86 rfl (lv_at hl 2 rfl) ?_
  refine va_get (D := (dC, dI)) (ci := 4) (v := .int 0) (C := RX4) (T := TX4) (N := 20) hx hb hts inX4 hown hK hP 0 rfl rfl 6 (by decide) (hts _ q693) (fun _ h9 => h9) rfl dX4_digest_87 ?_
  refine lv_i2l (v := 0) hx hb dX4_digest_90 (by decide +kernel) ?_
  refine lv_ladd hx hb dX4_digest_91 ?_
  refine tJ (v := 125891) (by decide +kernel) ?_
  refine lv_lstore_n (lv' := [(1, .long 125891), (3, .int 0), (0, .ref a0)]) hx hb dX4_digest_92 rfl hl (by decide) rfl (fun ls hl => ?_)
  refine lv_iconst (v := 0) hx hb dX4_digest_93 (by decide) ?_
  refine lv_istore_n (lv' := [(3, .int 0), (1, .long 125891), (0, .ref a0)]) hx hb dX4_digest_94 rfl hl (by decide) rfl (fun ls hl => ?_)
  refine lv_iload_n hx hb dX4_digest_95 rfl (lv_at hl 0 rfl) ?_
  refine lv_aload_n hx hb dX4_digest_96 rfl (lv_at hl 2 rfl) ?_
  refine va_get (D := (dC, dI)) (ci := 4) (v := .int 0) (C := RX4) (T := TX4) (N := 20) hx hb hts inX4 hown hK hP 0 rfl rfl 6 (by decide) (hts _ q693) (fun _ h9 => h9) rfl dX4_digest_97 ?_
  refine lv_icmp_ge (tgt := 123) hx hb dX4_digest_100 (by decide) (fun _ => ?_) (fun h9 => absurd (by decide) h9)
  refine lv_aload_n hx hb dX4_digest_123 rfl (lv_at hl 2 rfl) ?_
  refine va_get (D := (dC, dI)) (ci := 4) (v := .int 0) (C := RX4) (T := TX4) (N := 20) hx hb hts inX4 hown hK hP 0 rfl rfl 11 (by decide) (hts _ q698) (fun _ h9 => h9) rfl dX4_digest_124 ?_
  refine lv_if_ne (tgt := 132) hx hb dX4_digest_127 (by decide) (fun h9 => absurd (by decide) h9) (fun _ => ?_)
  refine lv_lload_n hx hb dX4_digest_130 rfl (lv_at hl 1 rfl) ?_
  exact xr_l hx hb hr hlocks hP hD hS [0] rfl (by decide) (Nat.le_of_ble_eq_true rfl) (Nat.le_of_ble_eq_true rfl) dX4_digest_131
