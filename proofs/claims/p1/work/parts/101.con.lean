set_option maxHeartbeats 4000000 in
set_option maxRecDepth 100000 in
theorem kX3_addVariable_0 (l : Launch) (hfl : l.stackTraces = false) (dC : Nat → ClassId) (dI : Nat → Nat → Nat) (cI cZ cJ cD : ClassId) (a0 : Nat) (x0 x1 : Int32) (sz : Nat) (h0 : x0 < 2) : vx_Met l yX3_addVariable (ws_ yX3_addVariable cX3_addVariable 3 (some .int)) (rm_ 1 1 6) (PC (dC, dI) (tyL cI cZ cJ cD) [] sz [.ref a0, .int x0, .int x1]) QN (XR nIAE (va_A [] sz)) 1 6 (va_A [] sz) := by
  refine xm_x (cls := nIAE) (by decide +kernel) (Nat.le_of_ble_eq_true rfl) ?_
  intro p e s m below meth c A ls hx hb hr hml hown hts hlocks hno hK hP hD hE hA hS hl
  have hown : s.vm.findClass RX3 = some m.cls := hown
  have hl : lv_has ls 3 [(0, .ref a0), (1, .int x0), (2, .int x1)] := hl
  have hP : va_P (dC, dI) vwCl [] s.heap := hP
  refine lv_iload_n hx hb dX3_addVariable_0 rfl (lv_at hl 1 rfl) ?_
  refine lv_iconst (v := 2) hx hb dX3_addVariable_1 (by decide) ?_
  refine lv_icmp_lt (tgt := 10) hx hb dX3_addVariable_2 (by decide) (fun _ => ?_) (fun h9 => absurd h0 h9)
  exact xx_throw (cls := nIAE) hx hb hfl hown hts tok_IAE q397 q9 hE.2.2.cIAE (hE.2.2.st.1) hE hS (hl.1.trans hml.symm) hno hlocks dX3_addVariable_10 dX3_addVariable_13 dX3_addVariable_14 dX3_addVariable_16 dX3_addVariable_19 (Nat.le_of_ble_eq_true rfl) (Nat.le_of_ble_eq_true rfl) (Nat.le_of_ble_eq_true rfl) (Nat.le_of_ble_eq_true rfl) (Nat.le_of_ble_eq_true rfl) (Nat.le_of_ble_eq_true rfl)
set_option maxHeartbeats 4000000 in
set_option maxRecDepth 100000 in
theorem kL_addVariable_0 (l : Launch) (hfl : l.stackTraces = false) (dC : Nat → ClassId) (dI : Nat → Nat → Nat) (cI cZ cJ cD : ClassId) (a0 a1 a2 a3 a4 : Nat) (x0 x1 : Int32) (sz : Nat) (h0 : x0 < 2) : Met l yL_addVariable (wh_ yL_addVariable cL_addVariable 5 (some .int) [(0, 10, 13, 13), (0, 10, 17, 15)]) (rm_ 2 1 6) (PC (dC, dI) (tyL cI cZ cJ cD) [(a0, .inr (3, [.ref a2, .ref a3, .ref a4, .int 0]))] sz [.ref a0, .int x0, .int x1, .ref a1]) (QR (dC, dI) [(a0, .inr (3, [.ref a2, .ref a3, .ref a4, .int 0]))] (some (.int 1)) (va_A [(a0, .inr (3, [.ref a2, .ref a3, .ref a4, .int 0]))] sz)) 1 6 (va_A [(a0, .inr (3, [.ref a2, .ref a3, .ref a4, .int 0]))] sz) := by
  refine xm_h (QQ := QR (dC, dI) [(a0, .inr (3, [.ref a2, .ref a3, .ref a4, .int 0]))] (some (.int 1))) (by decide +kernel) (Nat.le_of_ble_eq_true rfl) ?_
  intro p e s m below meth c A ls hx hb hr hml hown hts hlocks htab hK hP hD hE hA hS hl
  have hown : s.vm.findClass RL = some m.cls := hown
  have hl : lv_has ls 5 [(0, .ref a0), (1, .int x0), (2, .int x1), (3, .ref a1)] := hl
  have hP : va_P (dC, dI) vwCl [(a0, .inr (3, [.ref a2, .ref a3, .ref a4, .int 0]))] s.heap := hP
  refine lv_aload_n hx hb dL_addVariable_0 rfl (lv_at hl 3 rfl) ?_
  refine lv_iconst (v := 0) hx hb dL_addVariable_1 (by decide) ?_
  refine lv_aload_n hx hb dL_addVariable_2 rfl (lv_at hl 0 rfl) ?_
  refine lv_iload_n hx hb dL_addVariable_3 rfl (lv_at hl 1 rfl) ?_
  refine lv_iload_n hx hb dL_addVariable_4 rfl (lv_at hl 2 rfl) ?_
  refine xx_V (b := a0) (wc := []) (As := [.int x0, .int x1]) (rest := [.int 0, .ref a1]) (wr := [(a0, .inr (3, [.ref a2, .ref a3, .ref a4, .int 0]))]) ⟨hx, hb, hml, hown, hts⟩ (kX3_addVariable_0 l hfl dC dI cI cZ cJ cD a0 x0 x1 _ h0) q393 okX3_addVariable hP hD hK hE hS hA [] [0] rfl rfl (by decide) (by decide) (by decide) (ci := 3) rfl 0 rfl rfl rfl hl.1 rfl (Nat.le_of_ble_eq_true rfl) ⟨rfl, rfl⟩ ⟨Nat.le_of_ble_eq_true rfl, Nat.le_of_ble_eq_true rfl⟩ ⟨Nat.le_of_ble_eq_true rfl, Nat.le_of_ble_eq_true rfl⟩ dL_addVariable_5 (fun q9 ce H locs h1 h2 h3 hP hD hS => ?_)
  refine vx_catch (own := RL) (name := nIAE) (E := nIAE) hown [] ⟨0, 10, 13, 13⟩ [⟨0, 10, 17, 15⟩] htab (fun z hz => by cases hz) (by decide) (by decide) (hts _ q391) (hE.2.2.cIAE.use rfl) h1 h2 h3 ?_
  refine W.eq (g2 := F0 m 13 ls [.ref q9]) rfl ?_
  refine lv_astore (lv' := [(4, .ref q9), (0, .ref a0), (1, .int x0), (2, .int x1), (3, .ref a1)]) hx hb dL_addVariable_13 hl (by decide) rfl (fun ls hl => ?_)
  refine lv_iconst (v := 1) hx hb dL_addVariable_15 (by decide) ?_
  exact xr_i hx hb hr hlocks hP hD hS [0] rfl (by decide) (Nat.le_of_ble_eq_true rfl) (Nat.le_of_ble_eq_true rfl) dL_addVariable_16
set_option maxHeartbeats 4000000 in
set_option maxRecDepth 100000 in
theorem kX4_fail_0 (l : Launch) (hfl : l.stackTraces = false) (dC : Nat → ClassId) (dI : Nat → Nat → Nat) (cI cZ cJ cD : ClassId) (a0 a1 a2 a3 a4 a5 a6 a7 a8 a9 a10 a11 a12 a13 : Nat) (sz : Nat) : Met l yX4_fail (ws_ yX4_fail cX4_fail 2 (some .int)) (rm_ 1 0 0) (PC (dC, dI) (tyL cI cZ cJ cD) [(a0, .inr (4, [.int 0, .int 0, .ref a1, .ref a2, .ref a3, .ref a4, .int 0, .ref a5, .ref a6, .ref a7, .ref a8, .int 0, .int 0, .int 0, .int 0, .ref a9, .ref a10, .ref a11, .ref a12, .ref a13]))] sz [.ref a0, .int 1]) (QR (dC, dI) [(a0, .inr (4, [.int 1, .int 0, .ref a1, .ref a2, .ref a3, .ref a4, .int 0, .ref a5, .ref a6, .ref a7, .ref a8, .int 0, .int 0, .int 0, .int 0, .ref a9, .ref a10, .ref a11, .ref a12, .ref a13]))] (some (.int 0)) (va_A [(a0, .inr (4, [.int 0, .int 0, .ref a1, .ref a2, .ref a3, .ref a4, .int 0, .ref a5, .ref a6, .ref a7, .ref a8, .int 0, .int 0, .int 0, .int 0, .ref a9, .ref a10, .ref a11, .ref a12, .ref a13]))] sz)) 0 0 (va_A [(a0, .inr (4, [.int 0, .int 0, .ref a1, .ref a2, .ref a3, .ref a4, .int 0, .ref a5, .ref a6, .ref a7, .ref a8, .int 0, .int 0, .int 0, .int 0, .ref a9, .ref a10, .ref a11, .ref a12, .ref a13]))] sz) := by
  refine xm_of (QQ := QR (dC, dI) [(a0, .inr (4, [.int 1, .int 0, .ref a1, .ref a2, .ref a3, .ref a4, .int 0, .ref a5, .ref a6, .ref a7, .ref a8, .int 0, .int 0, .int 0, .int 0, .ref a9, .ref a10, .ref a11, .ref a12, .ref a13]))] (some (.int 0))) (by decide +kernel) (Nat.le_of_ble_eq_true rfl) ?_
  intro p e s m below meth c A ls hx hb hr hml hown hts hlocks hin hK hP hD hE hA hS hl
  have hown : s.vm.findClass RX4 = some m.cls := hown
  have hl : lv_has ls 2 [(0, .ref a0), (1, .int 1)] := hl
  have hP : va_P (dC, dI) vwCl [(a0, .inr (4, [.int 0, .int 0, .ref a1, .ref a2, .ref a3, .ref a4, .int 0, .ref a5, .ref a6, .ref a7, .ref a8, .int 0, .int 0, .int 0, .int 0, .ref a9, .ref a10, .ref a11, .ref a12, .ref a13]))] s.heap := hP
  refine lv_aload_n hx hb dX4_fail_0 rfl (lv_at hl 0 rfl) ?_
  refine lv_iload_n hx hb dX4_fail_1 rfl (lv_at hl 1 rfl) ?_
  refine va_put (D := (dC, dI)) (ci := 4) (v := .int 1) (ty := .int) (C := RX4) (T := TX4) (N := 20) hx hb hts inX4 tyX4 tyX4_ok nmX4 hown hK hP hD hS 0 rfl rfl 0 (by decide) (hts _ q687) (fun _ h9 => h9) rfl (by decide +kernel) rfl rfl (Nat.le_of_ble_eq_true rfl) dX4_fail_2 (fun H locs hP hD hS => ?_)
  have hP : va_P (dC, dI) vwCl [(a0, .inr (4, [.int 1, .int 0, .ref a1, .ref a2, .ref a3, .ref a4, .int 0, .ref a5, .ref a6, .ref a7, .ref a8, .int 0, .int 0, .int 0, .int 0, .ref a9, .ref a10, .ref a11, .ref a12, .ref a13]))] H := hP
  have hD : va_D A [(a0, .inr (4, [.int 1, .int 0, .ref a1, .ref a2, .ref a3, .ref a4, .int 0, .ref a5, .ref a6, .ref a7, .ref a8, .int 0, .int 0, .int 0, .int 0, .ref a9, .ref a10, .ref a11, .ref a12, .ref a13]))] := hD
  refine lv_iconst (v := 0) hx hb dX4_fail_5 (by decide) ?_
  exact xr_i hx hb hr hlocks hP hD hS [0] rfl (by decide) (Nat.le_of_ble_eq_true rfl) (Nat.le_of_ble_eq_true rfl) dX4_fail_6
set_option maxHeartbeats 4000000 in
set_option maxRecDepth 100000 in
theorem kX4_addVariable_0 (l : Launch) (hfl : l.stackTraces = false) (dC : Nat → ClassId) (dI : Nat → Nat → Nat) (cI cZ cJ cD : ClassId) (a0 a1 a2 a3 a4 a5 a6 a7 a8 a9 a10 a11 a12 a13 : Nat) (x0 x1 : Int32) (sz : Nat) (h0 : x0 < 2) : Met l yX4_addVariable (ws_ yX4_addVariable cX4_addVariable 3 (some .int)) (rm_ 2 0 0) (PC (dC, dI) (tyL cI cZ cJ cD) [(a0, .inr (4, [.int 0, .int 0, .ref a1, .ref a2, .ref a3, .ref a4, .int 0, .ref a5, .ref a6, .ref a7, .ref a8, .int 0, .int 0, .int 0, .int 0, .ref a9, .ref a10, .ref a11, .ref a12, .ref a13]))] sz [.ref a0, .int x0, .int x1]) (QR (dC, dI) [(a0, .inr (4, [.int 1, .int 0, .ref a1, .ref a2, .ref a3, .ref a4, .int 0, .ref a5, .ref a6, .ref a7, .ref a8, .int 0, .int 0, .int 0, .int 0, .ref a9, .ref a10, .ref a11, .ref a12, .ref a13]))] (some (.int 0)) (va_A [(a0, .inr (4, [.int 0, .int 0, .ref a1, .ref a2, .ref a3, .ref a4, .int 0, .ref a5, .ref a6, .ref a7, .ref a8, .int 0, .int 0, .int 0, .int 0, .ref a9, .ref a10, .ref a11, .ref a12, .ref a13]))] sz)) 0 0 (va_A [(a0, .inr (4, [.int 0, .int 0, .ref a1, .ref a2, .ref a3, .ref a4, .int 0, .ref a5, .ref a6, .ref a7, .ref a8, .int 0, .int 0, .int 0, .int 0, .ref a9, .ref a10, .ref a11, .ref a12, .ref a13]))] sz) := by
  refine xm_of (QQ := QR (dC, dI) [(a0, .inr (4, [.int 1, .int 0, .ref a1, .ref a2, .ref a3, .ref a4, .int 0, .ref a5, .ref a6, .ref a7, .ref a8, .int 0, .int 0, .int 0, .int 0, .ref a9, .ref a10, .ref a11, .ref a12, .ref a13]))] (some (.int 0))) (by decide +kernel) (Nat.le_of_ble_eq_true rfl) ?_
  intro p e s m below meth c A ls hx hb hr hml hown hts hlocks hin hK hP hD hE hA hS hl
  have hown : s.vm.findClass RX4 = some m.cls := hown
  have hl : lv_has ls 3 [(0, .ref a0), (1, .int x0), (2, .int x1)] := hl
  have hP : va_P (dC, dI) vwCl [(a0, .inr (4, [.int 0, .int 0, .ref a1, .ref a2, .ref a3, .ref a4, .int 0, .ref a5, .ref a6, .ref a7, .ref a8, .int 0, .int 0, .int 0, .int 0, .ref a9, .ref a10, .ref a11, .ref a12, .ref a13]))] s.heap := hP
  refine lv_aload_n hx hb dX4_addVariable_0 rfl (lv_at hl 0 rfl) ?_
  refine lv_iconst (v := 0) hx hb dX4_addVariable_1 (by decide) ?_
  refine va_put (D := (dC, dI)) (ci := 4) (v := .int 0) (ty := .int) (C := RX4) (T := TX4) (N := 20) hx hb hts inX4 tyX4 tyX4_ok nmX4 hown hK hP hD hS 0 rfl rfl 0 (by decide) (hts _ q687) (fun _ h9 => h9) rfl (by decide +kernel) rfl rfl (Nat.le_of_ble_eq_true rfl) dX4_addVariable_2 (fun H locs hP hD hS => ?_)
  have hP : va_P (dC, dI) vwCl [(a0, .inr (4, [.int 0, .int 0, .ref a1, .ref a2, .ref a3, .ref a4, .int 0, .ref a5, .ref a6, .ref a7, .ref a8, .int 0, .int 0, .int 0, .int 0, .ref a9, .ref a10, .ref a11, .ref a12, .ref a13]))] H := hP
  have hD : va_D A [(a0, .inr (4, [.int 0, .int 0, .ref a1, .ref a2, .ref a3, .ref a4, .int 0, .ref a5, .ref a6, .ref a7, .ref a8, .int 0, .int 0, .int 0, .int 0, .ref a9, .ref a10, .ref a11, .ref a12, .ref a13]))] := hD
  refine lv_iload_n hx hb dX4_addVariable_5 rfl (lv_at hl 1 rfl) ?_
  refine lv_iconst (v := 2) hx hb dX4_addVariable_6 (by decide) ?_
  refine lv_icmp_lt (tgt := 24) hx hb dX4_addVariable_7 (by decide) (fun _ => ?_) (fun h9 => absurd h0 h9)
  refine lv_aload_n hx hb dX4_addVariable_24 rfl (lv_at hl 0 rfl) ?_
  refine lv_iconst (v := 1) hx hb dX4_addVariable_25 (by decide) ?_
  refine xc_V (b := a0) (wc := [(a0, .inr (4, [.int 0, .int 0, .ref a1, .ref a2, .ref a3, .ref a4, .int 0, .ref a5, .ref a6, .ref a7, .ref a8, .int 0, .int 0, .int 0, .int 0, .ref a9, .ref a10, .ref a11, .ref a12, .ref a13]))]) (As := [.int 1]) (rest := []) (wr := []) ⟨hx, hb, hml, hown, hts⟩ (kX4_fail_0 l hfl dC dI cI cZ cJ cD a0 a1 a2 a3 a4 a5 a6 a7 a8 a9 a10 a11 a12 a13 _) q756 okX4_fail hP hD hK hE hS hA [0] [] rfl rfl (by decide) (by decide) (by decide) (ci := 4) rfl 0 rfl rfl rfl hl.1 rfl (Nat.le_of_ble_eq_true rfl) ⟨rfl, rfl⟩ ⟨Nat.le_of_ble_eq_true rfl, Nat.le_of_ble_eq_true rfl⟩ ⟨Nat.le_of_ble_eq_true rfl, Nat.le_of_ble_eq_true rfl⟩ dX4_addVariable_26 (fun H locs hP hD hS => ?_)
  have hP : va_P (dC, dI) vwCl [(a0, .inr (4, [.int 1, .int 0, .ref a1, .ref a2, .ref a3, .ref a4, .int 0, .ref a5, .ref a6, .ref a7, .ref a8, .int 0, .int 0, .int 0, .int 0, .ref a9, .ref a10, .ref a11, .ref a12, .ref a13]))] H := hP
  have hD : va_D A [(a0, .inr (4, [.int 1, .int 0, .ref a1, .ref a2, .ref a3, .ref a4, .int 0, .ref a5, .ref a6, .ref a7, .ref a8, .int 0, .int 0, .int 0, .int 0, .ref a9, .ref a10, .ref a11, .ref a12, .ref a13]))] := hD
  refine W.eq (g2 := F0 m 29 ls [.int 0]) rfl ?_
  exact xr_i hx hb hr hlocks hP hD hS [0] rfl (by decide) (Nat.le_of_ble_eq_true rfl) (Nat.le_of_ble_eq_true rfl) dX4_addVariable_29
set_option maxHeartbeats 4000000 in
set_option maxRecDepth 100000 in
theorem kX4_thrown_0 (l : Launch) (hfl : l.stackTraces = false) (dC : Nat → ClassId) (dI : Nat → Nat → Nat) (cI cZ cJ cD : ClassId) (a0 a1 a2 a3 a4 a5 a6 a7 a8 a9 a10 a11 a12 a13 : Nat) (sz : Nat) : Met l yX4_thrown (ws_ yX4_thrown cX4_thrown 1 (some .int)) (rm_ 1 0 0) (PC (dC, dI) (tyL cI cZ cJ cD) [(a0, .inr (4, [.int 1, .int 0, .ref a1, .ref a2, .ref a3, .ref a4, .int 0, .ref a5, .ref a6, .ref a7, .ref a8, .int 0, .int 0, .int 0, .int 0, .ref a9, .ref a10, .ref a11, .ref a12, .ref a13]))] sz [.ref a0]) (QR (dC, dI) [(a0, .inr (4, [.int 1, .int 0, .ref a1, .ref a2, .ref a3, .ref a4, .int 0, .ref a5, .ref a6, .ref a7, .ref a8, .int 0, .int 0, .int 0, .int 0, .ref a9, .ref a10, .ref a11, .ref a12, .ref a13]))] (some (.int 1)) (va_A [(a0, .inr (4, [.int 1, .int 0, .ref a1, .ref a2, .ref a3, .ref a4, .int 0, .ref a5, .ref a6, .ref a7, .ref a8, .int 0, .int 0, .int 0, .int 0, .ref a9, .ref a10, .ref a11, .ref a12, .ref a13]))] sz)) 0 0 (va_A [(a0, .inr (4, [.int 1, .int 0, .ref a1, .ref a2, .ref a3, .ref a4, .int 0, .ref a5, .ref a6, .ref a7, .ref a8, .int 0, .int 0, .int 0, .int 0, .ref a9, .ref a10, .ref a11, .ref a12, .ref a13]))] sz) := by
  refine xm_of (QQ := QR (dC, dI) [(a0, .inr (4, [.int 1, .int 0, .ref a1, .ref a2, .ref a3, .ref a4, .int 0, .ref a5, .ref a6, .ref a7, .ref a8, .int 0, .int 0, .int 0, .int 0, .ref a9, .ref a10, .ref a11, .ref a12, .ref a13]))] (some (.int 1))) (by decide +kernel) (Nat.le_of_ble_eq_true rfl) ?_
  intro p e s m below meth c A ls hx hb hr hml hown hts hlocks hin hK hP hD hE hA hS hl
  have hown : s.vm.findClass RX4 = some m.cls := hown
  have hl : lv_has ls 1 [(0, .ref a0)] := hl
  have hP : va_P (dC, dI) vwCl [(a0, .inr (4, [.int 1, .int 0, .ref a1, .ref a2, .ref a3, .ref a4, .int 0, .ref a5, .ref a6, .ref a7, .ref a8, .int 0, .int 0, .int 0, .int 0, .ref a9, .ref a10, .ref a11, .ref a12, .ref a13]))] s.heap := hP
  refine lv_aload_n hx hb dX4_thrown_0 rfl (lv_at hl 0 rfl) ?_
  refine va_get (D := (dC, dI)) (ci := 4) (v := .int 1) (C := RX4) (T := TX4) (N := 20) hx hb hts inX4 hown hK hP 0 rfl rfl 0 (by decide) (hts _ q687) (fun _ h9 => h9) rfl dX4_thrown_1 ?_
  exact xr_i hx hb hr hlocks hP hD hS [0] rfl (by decide) (Nat.le_of_ble_eq_true rfl) (Nat.le_of_ble_eq_true rfl) dX4_thrown_4
set_option maxHeartbeats 4000000 in
set_option maxRecDepth 100000 in
theorem kX3_addVariable_1 (l : Launch) (hfl : l.stackTraces = false) (dC : Nat → ClassId) (dI : Nat → Nat → Nat) (cI cZ cJ cD : ClassId) (a0 : Nat) (x0 x1 : Int32) (sz : Nat) (h0 : ¬ x0 < 2) (h1 : ¬ x0 ≤ 4) : vx_Met l yX3_addVariable (ws_ yX3_addVariable cX3_addVariable 3 (some .int)) (rm_ 1 1 6) (PC (dC, dI) (tyL cI cZ cJ cD) [] sz [.ref a0, .int x0, .int x1]) QN (XR nIAE (va_A [] sz)) 1 6 (va_A [] sz) := by
  refine xm_x (cls := nIAE) (by decide +kernel) (Nat.le_of_ble_eq_true rfl) ?_
  intro p e s m below meth c A ls hx hb hr hml hown hts hlocks hno hK hP hD hE hA hS hl
  have hown : s.vm.findClass RX3 = some m.cls := hown
  have hl : lv_has ls 3 [(0, .ref a0), (1, .int x0), (2, .int x1)] := hl
  have hP : va_P (dC, dI) vwCl [] s.heap := hP
  refine lv_iload_n hx hb dX3_addVariable_0 rfl (lv_at hl 1 rfl) ?_
  refine lv_iconst (v := 2) hx hb dX3_addVariable_1 (by decide) ?_
  refine lv_icmp_lt (tgt := 10) hx hb dX3_addVariable_2 (by decide) (fun h9 => absurd h9 h0) (fun _ => ?_)
  refine lv_iload_n hx hb dX3_addVariable_5 rfl (lv_at hl 1 rfl) ?_
  refine lv_iconst (v := 4) hx hb dX3_addVariable_6 (by decide) ?_
  refine lv_icmp_le (tgt := 20) hx hb dX3_addVariable_7 (by decide) (fun h9 => absurd h9 h1) (fun _ => ?_)
  exact xx_throw (cls := nIAE) hx hb hfl hown hts tok_IAE q397 q9 hE.2.2.cIAE (hE.2.2.st.1) hE hS (hl.1.trans hml.symm) hno hlocks dX3_addVariable_10 dX3_addVariable_13 dX3_addVariable_14 dX3_addVariable_16 dX3_addVariable_19 (Nat.le_of_ble_eq_true rfl) (Nat.le_of_ble_eq_true rfl) (Nat.le_of_ble_eq_true rfl) (Nat.le_of_ble_eq_true rfl) (Nat.le_of_ble_eq_true rfl) (Nat.le_of_ble_eq_true rfl)
set_option maxHeartbeats 4000000 in
set_option maxRecDepth 100000 in
theorem kL_addVariable_1 (l : Launch) (hfl : l.stackTraces = false) (dC : Nat → ClassId) (dI : Nat → Nat → Nat) (cI cZ cJ cD : ClassId) (a0 a1 a2 a3 a4 : Nat) (x0 x1 : Int32) (sz : Nat) (h0 : ¬ x0 < 2) (h1 : ¬ x0 ≤ 4) : Met l yL_addVariable (wh_ yL_addVariable cL_addVariable 5 (some .int) [(0, 10, 13, 13), (0, 10, 17, 15)]) (rm_ 2 1 6) (PC (dC, dI) (tyL cI cZ cJ cD) [(a0, .inr (3, [.ref a2, .ref a3, .ref a4, .int 0]))] sz [.ref a0, .int x0, .int x1, .ref a1]) (QR (dC, dI) [(a0, .inr (3, [.ref a2, .ref a3, .ref a4, .int 0]))] (some (.int 1)) (va_A [(a0, .inr (3, [.ref a2, .ref a3, .ref a4, .int 0]))] sz)) 1 6 (va_A [(a0, .inr (3, [.ref a2, .ref a3, .ref a4, .int 0]))] sz) := by
  refine xm_h (QQ := QR (dC, dI) [(a0, .inr (3, [.ref a2, .ref a3, .ref a4, .int 0]))] (some (.int 1))) (by decide +kernel) (Nat.le_of_ble_eq_true rfl) ?_
  intro p e s m below meth c A ls hx hb hr hml hown hts hlocks htab hK hP hD hE hA hS hl
  have hown : s.vm.findClass RL = some m.cls := hown
  have hl : lv_has ls 5 [(0, .ref a0), (1, .int x0), (2, .int x1), (3, .ref a1)] := hl
  have hP : va_P (dC, dI) vwCl [(a0, .inr (3, [.ref a2, .ref a3, .ref a4, .int 0]))] s.heap := hP
  refine lv_aload_n hx hb dL_addVariable_0 rfl (lv_at hl 3 rfl) ?_
  refine lv_iconst (v := 0) hx hb dL_addVariable_1 (by decide) ?_
  refine lv_aload_n hx hb dL_addVariable_2 rfl (lv_at hl 0 rfl) ?_
  refine lv_iload_n hx hb dL_addVariable_3 rfl (lv_at hl 1 rfl) ?_
  refine lv_iload_n hx hb dL_addVariable_4 rfl (lv_at hl 2 rfl) ?_
  refine xx_V (b := a0) (wc := []) (As := [.int x0, .int x1]) (rest := [.int 0, .ref a1]) (wr := [(a0, .inr (3, [.ref a2, .ref a3, .ref a4, .int 0]))]) ⟨hx, hb, hml, hown, hts⟩ (kX3_addVariable_1 l hfl dC dI cI cZ cJ cD a0 x0 x1 _ h0 h1) q393 okX3_addVariable hP hD hK hE hS hA [] [0] rfl rfl (by decide) (by decide) (by decide) (ci := 3) rfl 0 rfl rfl rfl hl.1 rfl (Nat.le_of_ble_eq_true rfl) ⟨rfl, rfl⟩ ⟨Nat.le_of_ble_eq_true rfl, Nat.le_of_ble_eq_true rfl⟩ ⟨Nat.le_of_ble_eq_true rfl, Nat.le_of_ble_eq_true rfl⟩ dL_addVariable_5 (fun q9 ce H locs h1 h2 h3 hP hD hS => ?_)
  refine vx_catch (own := RL) (name := nIAE) (E := nIAE) hown [] ⟨0, 10, 13, 13⟩ [⟨0, 10, 17, 15⟩] htab (fun z hz => by cases hz) (by decide) (by decide) (hts _ q391) (hE.2.2.cIAE.use rfl) h1 h2 h3 ?_
  refine W.eq (g2 := F0 m 13 ls [.ref q9]) rfl ?_
  refine lv_astore (lv' := [(4, .ref q9), (0, .ref a0), (1, .int x0), (2, .int x1), (3, .ref a1)]) hx hb dL_addVariable_13 hl (by decide) rfl (fun ls hl => ?_)
  refine lv_iconst (v := 1) hx hb dL_addVariable_15 (by decide) ?_
  exact xr_i hx hb hr hlocks hP hD hS [0] rfl (by decide) (Nat.le_of_ble_eq_true rfl) (Nat.le_of_ble_eq_true rfl) dL_addVariable_16
set_option maxHeartbeats 4000000 in
set_option maxRecDepth 100000 in
theorem kX4_addVariable_1 (l : Launch) (hfl : l.stackTraces = false) (dC : Nat → ClassId) (dI : Nat → Nat → Nat) (cI cZ cJ cD : ClassId) (a0 a1 a2 a3 a4 a5 a6 a7 a8 a9 a10 a11 a12 a13 : Nat) (x0 x1 : Int32) (sz : Nat) (h0 : ¬ x0 < 2) (h1 : ¬ x0 ≤ 4) : Met l yX4_addVariable (ws_ yX4_addVariable cX4_addVariable 3 (some .int)) (rm_ 2 0 0) (PC (dC, dI) (tyL cI cZ cJ cD) [(a0, .inr (4, [.int 0, .int 0, .ref a1, .ref a2, .ref a3, .ref a4, .int 0, .ref a5, .ref a6, .ref a7, .ref a8, .int 0, .int 0, .int 0, .int 0, .ref a9, .ref a10, .ref a11, .ref a12, .ref a13]))] sz [.ref a0, .int x0, .int x1]) (QR (dC, dI) [(a0, .inr (4, [.int 1, .int 0, .ref a1, .ref a2, .ref a3, .ref a4, .int 0, .ref a5, .ref a6, .ref a7, .ref a8, .int 0, .int 0, .int 0, .int 0, .ref a9, .ref a10, .ref a11, .ref a12, .ref a13]))] (some (.int 0)) (va_A [(a0, .inr (4, [.int 0, .int 0, .ref a1, .ref a2, .ref a3, .ref a4, .int 0, .ref a5, .ref a6, .ref a7, .ref a8, .int 0, .int 0, .int 0, .int 0, .ref a9, .ref a10, .ref a11, .ref a12, .ref a13]))] sz)) 0 0 (va_A [(a0, .inr (4, [.int 0, .int 0, .ref a1, .ref a2, .ref a3, .ref a4, .int 0, .ref a5, .ref a6, .ref a7, .ref a8, .int 0, .int 0, .int 0, .int 0, .ref a9, .ref a10, .ref a11, .ref a12, .ref a13]))] sz) := by
  refine xm_of (QQ := QR (dC, dI) [(a0, .inr (4, [.int 1, .int 0, .ref a1, .ref a2, .ref a3, .ref a4, .int 0, .ref a5, .ref a6, .ref a7, .ref a8, .int 0, .int 0, .int 0, .int 0, .ref a9, .ref a10, .ref a11, .ref a12, .ref a13]))] (some (.int 0))) (by decide +kernel) (Nat.le_of_ble_eq_true rfl) ?_
  intro p e s m below meth c A ls hx hb hr hml hown hts hlocks hin hK hP hD hE hA hS hl
  have hown : s.vm.findClass RX4 = some m.cls := hown
  have hl : lv_has ls 3 [(0, .ref a0), (1, .int x0), (2, .int x1)] := hl
  have hP : va_P (dC, dI) vwCl [(a0, .inr (4, [.int 0, .int 0, .ref a1, .ref a2, .ref a3, .ref a4, .int 0, .ref a5, .ref a6, .ref a7, .ref a8, .int 0, .int 0, .int 0, .int 0, .ref a9, .ref a10, .ref a11, .ref a12, .ref a13]))] s.heap := hP
  refine lv_aload_n hx hb dX4_addVariable_0 rfl (lv_at hl 0 rfl) ?_
  refine lv_iconst (v := 0) hx hb dX4_addVariable_1 (by decide) ?_
  refine va_put (D := (dC, dI)) (ci := 4) (v := .int 0) (ty := .int) (C := RX4) (T := TX4) (N := 20) hx hb hts inX4 tyX4 tyX4_ok nmX4 hown hK hP hD hS 0 rfl rfl 0 (by decide) (hts _ q687) (fun _ h9 => h9) rfl (by decide +kernel) rfl rfl (Nat.le_of_ble_eq_true rfl) dX4_addVariable_2 (fun H locs hP hD hS => ?_)
  have hP : va_P (dC, dI) vwCl [(a0, .inr (4, [.int 0, .int 0, .ref a1, .ref a2, .ref a3, .ref a4, .int 0, .ref a5, .ref a6, .ref a7, .ref a8, .int 0, .int 0, .int 0, .int 0, .ref a9, .ref a10, .ref a11, .ref a12, .ref a13]))] H := hP
  have hD : va_D A [(a0, .inr (4, [.int 0, .int 0, .ref a1, .ref a2, .ref a3, .ref a4, .int 0, .ref a5, .ref a6, .ref a7, .ref a8, .int 0, .int 0, .int 0, .int 0, .ref a9, .ref a10, .ref a11, .ref a12, .ref a13]))] := hD
  refine lv_iload_n hx hb dX4_addVariable_5 rfl (lv_at hl 1 rfl) ?_
  refine lv_iconst (v := 2) hx hb dX4_addVariable_6 (by decide) ?_
  refine lv_icmp_lt (tgt := 24) hx hb dX4_addVariable_7 (by decide) (fun h9 => absurd h9 h0) (fun _ => ?_)
  refine lv_iload_n hx hb dX4_addVariable_10 rfl (lv_at hl 1 rfl) ?_
  refine lv_iconst (v := 4) hx hb dX4_addVariable_11 (by decide) ?_
  refine lv_icmp_gt (tgt := 24) hx hb dX4_addVariable_12 (by decide) (fun _ => ?_) (fun h9 => absurd (i_lt h1) h9)
  refine lv_aload_n hx hb dX4_addVariable_24 rfl (lv_at hl 0 rfl) ?_
  refine lv_iconst (v := 1) hx hb dX4_addVariable_25 (by decide) ?_
  refine xc_V (b := a0) (wc := [(a0, .inr (4, [.int 0, .int 0, .ref a1, .ref a2, .ref a3, .ref a4, .int 0, .ref a5, .ref a6, .ref a7, .ref a8, .int 0, .int 0, .int 0, .int 0, .ref a9, .ref a10, .ref a11, .ref a12, .ref a13]))]) (As := [.int 1]) (rest := []) (wr := []) ⟨hx, hb, hml, hown, hts⟩ (kX4_fail_0 l hfl dC dI cI cZ cJ cD a0 a1 a2 a3 a4 a5 a6 a7 a8 a9 a10 a11 a12 a13 _) q756 okX4_fail hP hD hK hE hS hA [0] [] rfl rfl (by decide) (by decide) (by decide) (ci := 4) rfl 0 rfl rfl rfl hl.1 rfl (Nat.le_of_ble_eq_true rfl) ⟨rfl, rfl⟩ ⟨Nat.le_of_ble_eq_true rfl, Nat.le_of_ble_eq_true rfl⟩ ⟨Nat.le_of_ble_eq_true rfl, Nat.le_of_ble_eq_true rfl⟩ dX4_addVariable_26 (fun H locs hP hD hS => ?_)
  have hP : va_P (dC, dI) vwCl [(a0, .inr (4, [.int 1, .int 0, .ref a1, .ref a2, .ref a3, .ref a4, .int 0, .ref a5, .ref a6, .ref a7, .ref a8, .int 0, .int 0, .int 0, .int 0, .ref a9, .ref a10, .ref a11, .ref a12, .ref a13]))] H := hP
  have hD : va_D A [(a0, .inr (4, [.int 1, .int 0, .ref a1, .ref a2, .ref a3, .ref a4, .int 0, .ref a5, .ref a6, .ref a7, .ref a8, .int 0, .int 0, .int 0, .int 0, .ref a9, .ref a10, .ref a11, .ref a12, .ref a13]))] := hD
  refine W.eq (g2 := F0 m 29 ls [.int 0]) rfl ?_
  exact xr_i hx hb hr hlocks hP hD hS [0] rfl (by decide) (Nat.le_of_ble_eq_true rfl) (Nat.le_of_ble_eq_true rfl) dX4_addVariable_29
set_option maxHeartbeats 4000000 in
set_option maxRecDepth 100000 in
theorem kX3_addVariable_2 (l : Launch) (hfl : l.stackTraces = false) (dC : Nat → ClassId) (dI : Nat → Nat → Nat) (cI cZ cJ cD : ClassId) (a0 : Nat) (x0 x1 : Int32) (sz : Nat) (h0 : ¬ x0 < 2) (h1 : x0 ≤ 4) (h2 : x1 < 0) : vx_Met l yX3_addVariable (ws_ yX3_addVariable cX3_addVariable 3 (some .int)) (rm_ 1 1 6) (PC (dC, dI) (tyL cI cZ cJ cD) [] sz [.ref a0, .int x0, .int x1]) QN (XR nIAE (va_A [] sz)) 1 6 (va_A [] sz) := by
  refine xm_x (cls := nIAE) (by decide +kernel) (Nat.le_of_ble_eq_true rfl) ?_
  intro p e s m below meth c A ls hx hb hr hml hown hts hlocks hno hK hP hD hE hA hS hl
  have hown : s.vm.findClass RX3 = some m.cls := hown
  have hl : lv_has ls 3 [(0, .ref a0), (1, .int x0), (2, .int x1)] := hl
  have hP : va_P (dC, dI) vwCl [] s.heap := hP
  refine lv_iload_n hx hb dX3_addVariable_0 rfl (lv_at hl 1 rfl) ?_
  refine lv_iconst (v := 2) hx hb dX3_addVariable_1 (by decide) ?_
  refine lv_icmp_lt (tgt := 10) hx hb dX3_addVariable_2 (by decide) (fun h9 => absurd h9 h0) (fun _ => ?_)
  refine lv_iload_n hx hb dX3_addVariable_5 rfl (lv_at hl 1 rfl) ?_
  refine lv_iconst (v := 4) hx hb dX3_addVariable_6 (by decide) ?_
  refine lv_icmp_le (tgt := 20) hx hb dX3_addVariable_7 (by decide) (fun _ => ?_) (fun h9 => absurd h1 h9)
  refine lv_iload_n hx hb dX3_addVariable_20 rfl (lv_at hl 2 rfl) ?_
  refine lv_if_lt (tgt := 29) hx hb dX3_addVariable_21 (by decide) (fun _ => ?_) (fun h9 => absurd h2 h9)
  exact xx_throw (cls := nIAE) hx hb hfl hown hts tok_IAE q397 q9 hE.2.2.cIAE (hE.2.2.st.2.1) hE hS (hl.1.trans hml.symm) hno hlocks dX3_addVariable_29 dX3_addVariable_32 dX3_addVariable_33 dX3_addVariable_35 dX3_addVariable_38 (Nat.le_of_ble_eq_true rfl) (Nat.le_of_ble_eq_true rfl) (Nat.le_of_ble_eq_true rfl) (Nat.le_of_ble_eq_true rfl) (Nat.le_of_ble_eq_true rfl) (Nat.le_of_ble_eq_true rfl)
set_option maxHeartbeats 4000000 in
set_option maxRecDepth 100000 in
theorem kL_addVariable_2 (l : Launch) (hfl : l.stackTraces = false) (dC : Nat → ClassId) (dI : Nat → Nat → Nat) (cI cZ cJ cD : ClassId) (a0 a1 a2 a3 a4 : Nat) (x0 x1 : Int32) (sz : Nat) (h0 : ¬ x0 < 2) (h1 : x0 ≤ 4) (h2 : x1 < 0) : Met l yL_addVariable (wh_ yL_addVariable cL_addVariable 5 (some .int) [(0, 10, 13, 13), (0, 10, 17, 15)]) (rm_ 2 1 6) (PC (dC, dI) (tyL cI cZ cJ cD) [(a0, .inr (3, [.ref a2, .ref a3, .ref a4, .int 0]))] sz [.ref a0, .int x0, .int x1, .ref a1]) (QR (dC, dI) [(a0, .inr (3, [.ref a2, .ref a3, .ref a4, .int 0]))] (some (.int 1)) (va_A [(a0, .inr (3, [.ref a2, .ref a3, .ref a4, .int 0]))] sz)) 1 6 (va_A [(a0, .inr (3, [.ref a2, .ref a3, .ref a4, .int 0]))] sz) := by
  refine xm_h (QQ := QR (dC, dI) [(a0, .inr (3, [.ref a2, .ref a3, .ref a4, .int 0]))] (some (.int 1))) (by decide +kernel) (Nat.le_of_ble_eq_true rfl) ?_
  intro p e s m below meth c A ls hx hb hr hml hown hts hlocks htab hK hP hD hE hA hS hl
  have hown : s.vm.findClass RL = some m.cls := hown
  have hl : lv_has ls 5 [(0, .ref a0), (1, .int x0), (2, .int x1), (3, .ref a1)] := hl
  have hP : va_P (dC, dI) vwCl [(a0, .inr (3, [.ref a2, .ref a3, .ref a4, .int 0]))] s.heap := hP
  refine lv_aload_n hx hb dL_addVariable_0 rfl (lv_at hl 3 rfl) ?_
  refine lv_iconst (v := 0) hx hb dL_addVariable_1 (by decide) ?_
  refine lv_aload_n hx hb dL_addVariable_2 rfl (lv_at hl 0 rfl) ?_
  refine lv_iload_n hx hb dL_addVariable_3 rfl (lv_at hl 1 rfl) ?_
  refine lv_iload_n hx hb dL_addVariable_4 rfl (lv_at hl 2 rfl) ?_
  refine xx_V (b := a0) (wc := []) (As := [.int x0, .int x1]) (rest := [.int 0, .ref a1]) (wr := [(a0, .inr (3, [.ref a2, .ref a3, .ref a4, .int 0]))]) ⟨hx, hb, hml, hown, hts⟩ (kX3_addVariable_2 l hfl dC dI cI cZ cJ cD a0 x0 x1 _ h0 h1 h2) q393 okX3_addVariable hP hD hK hE hS hA [] [0] rfl rfl (by decide) (by decide) (by decide) (ci := 3) rfl 0 rfl rfl rfl hl.1 rfl (Nat.le_of_ble_eq_true rfl) ⟨rfl, rfl⟩ ⟨Nat.le_of_ble_eq_true rfl, Nat.le_of_ble_eq_true rfl⟩ ⟨Nat.le_of_ble_eq_true rfl, Nat.le_of_ble_eq_true rfl⟩ dL_addVariable_5 (fun q9 ce H locs h1 h2 h3 hP hD hS => ?_)
  refine vx_catch (own := RL) (name := nIAE) (E := nIAE) hown [] ⟨0, 10, 13, 13⟩ [⟨0, 10, 17, 15⟩] htab (fun z hz => by cases hz) (by decide) (by decide) (hts _ q391) (hE.2.2.cIAE.use rfl) h1 h2 h3 ?_
  refine W.eq (g2 := F0 m 13 ls [.ref q9]) rfl ?_
  refine lv_astore (lv' := [(4, .ref q9), (0, .ref a0), (1, .int x0), (2, .int x1), (3, .ref a1)]) hx hb dL_addVariable_13 hl (by decide) rfl (fun ls hl => ?_)
  refine lv_iconst (v := 1) hx hb dL_addVariable_15 (by decide) ?_
  exact xr_i hx hb hr hlocks hP hD hS [0] rfl (by decide) (Nat.le_of_ble_eq_true rfl) (Nat.le_of_ble_eq_true rfl) dL_addVariable_16
set_option maxHeartbeats 4000000 in
set_option maxRecDepth 100000 in
theorem kX4_addVariable_2 (l : Launch) (hfl : l.stackTraces = false) (dC : Nat → ClassId) (dI : Nat → Nat → Nat) (cI cZ cJ cD : ClassId) (a0 a1 a2 a3 a4 a5 a6 a7 a8 a9 a10 a11 a12 a13 : Nat) (x0 x1 : Int32) (sz : Nat) (h0 : ¬ x0 < 2) (h1 : x0 ≤ 4) (h2 : x1 < 0) : Met l yX4_addVariable (ws_ yX4_addVariable cX4_addVariable 3 (some .int)) (rm_ 2 0 0) (PC (dC, dI) (tyL cI cZ cJ cD) [(a0, .inr (4, [.int 0, .int 0, .ref a1, .ref a2, .ref a3, .ref a4, .int 0, .ref a5, .ref a6, .ref a7, .ref a8, .int 0, .int 0, .int 0, .int 0, .ref a9, .ref a10, .ref a11, .ref a12, .ref a13]))] sz [.ref a0, .int x0, .int x1]) (QR (dC, dI) [(a0, .inr (4, [.int 1, .int 0, .ref a1, .ref a2, .ref a3, .ref a4, .int 0, .ref a5, .ref a6, .ref a7, .ref a8, .int 0, .int 0, .int 0, .int 0, .ref a9, .ref a10, .ref a11, .ref a12, .ref a13]))] (some (.int 0)) (va_A [(a0, .inr (4, [.int 0, .int 0, .ref a1, .ref a2, .ref a3, .ref a4, .int 0, .ref a5, .ref a6, .ref a7, .ref a8, .int 0, .int 0, .int 0, .int 0, .ref a9, .ref a10, .ref a11, .ref a12, .ref a13]))] sz)) 0 0 (va_A [(a0, .inr (4, [.int 0, .int 0, .ref a1, .ref a2, .ref a3, .ref a4, .int 0, .ref a5, .ref a6, .ref a7, .ref a8, .int 0, .int 0, .int 0, .int 0, .ref a9, .ref a10, .ref a11, .ref a12, .ref a13]))] sz) := by
  refine xm_of (QQ := QR (dC, dI) [(a0, .inr (4, [.int 1, .int 0, .ref a1, .ref a2, .ref a3, .ref a4, .int 0, .ref a5, .ref a6, .ref a7, .ref a8, .int 0, .int 0, .int 0, .int 0, .ref a9, .ref a10, .ref a11, .ref a12, .ref a13]))] (some (.int 0))) (by decide +kernel) (Nat.le_of_ble_eq_true rfl) ?_
  intro p e s m below meth c A ls hx hb hr hml hown hts hlocks hin hK hP hD hE hA hS hl
  have hown : s.vm.findClass RX4 = some m.cls := hown
  have hl : lv_has ls 3 [(0, .ref a0), (1, .int x0), (2, .int x1)] := hl
  have hP : va_P (dC, dI) vwCl [(a0, .inr (4, [.int 0, .int 0, .ref a1, .ref a2, .ref a3, .ref a4, .int 0, .ref a5, .ref a6, .ref a7, .ref a8, .int 0, .int 0, .int 0, .int 0, .ref a9, .ref a10, .ref a11, .ref a12, .ref a13]))] s.heap := hP
  refine lv_aload_n hx hb dX4_addVariable_0 rfl (lv_at hl 0 rfl) ?_
  refine lv_iconst (v := 0) hx hb dX4_addVariable_1 (by decide) ?_
  refine va_put (D := (dC, dI)) (ci := 4) (v := .int 0) (ty := .int) (C := RX4) (T := TX4) (N := 20) hx hb hts inX4 tyX4 tyX4_ok nmX4 hown hK hP hD hS 0 rfl rfl 0 (by decide) (hts _ q687) (fun _ h9 => h9) rfl (by decide +kernel) rfl rfl (Nat.le_of_ble_eq_true rfl) dX4_addVariable_2 (fun H locs hP hD hS => ?_)
  have hP : va_P (dC, dI) vwCl [(a0, .inr (4, [.int 0, .int 0, .ref a1, .ref a2, .ref a3, .ref a4, .int 0, .ref a5, .ref a6, .ref a7, .ref a8, .int 0, .int 0, .int 0, .int 0, .ref a9, .ref a10, .ref a11, .ref a12, .ref a13]))] H := hP
  have hD : va_D A [(a0, .inr (4, [.int 0, .int 0, .ref a1, .ref a2, .ref a3, .ref a4, .int 0, .ref a5, .ref a6, .ref a7, .ref a8, .int 0, .int 0, .int 0, .int 0, .ref a9, .ref a10, .ref a11, .ref a12, .ref a13]))] := hD
  refine lv_iload_n hx hb dX4_addVariable_5 rfl (lv_at hl 1 rfl) ?_
  refine lv_iconst (v := 2) hx hb dX4_addVariable_6 (by decide) ?_
  refine lv_icmp_lt (tgt := 24) hx hb dX4_addVariable_7 (by decide) (fun h9 => absurd h9 h0) (fun _ => ?_)
  refine lv_iload_n hx hb dX4_addVariable_10 rfl (lv_at hl 1 rfl) ?_
  refine lv_iconst (v := 4) hx hb dX4_addVariable_11 (by decide) ?_
  refine lv_icmp_gt (tgt := 24) hx hb dX4_addVariable_12 (by decide) (fun h9 => absurd h9 (i_nlt h1)) (fun _ => ?_)
  refine lv_iload_n hx hb dX4_addVariable_15 rfl (lv_at hl 2 rfl) ?_
  refine lv_if_lt (tgt := 24) hx hb dX4_addVariable_16 (by decide) (fun _ => ?_) (fun h9 => absurd h2 h9)
  refine lv_aload_n hx hb dX4_addVariable_24 rfl (lv_at hl 0 rfl) ?_
  refine lv_iconst (v := 1) hx hb dX4_addVariable_25 (by decide) ?_
  refine xc_V (b := a0) (wc := [(a0, .inr (4, [.int 0, .int 0, .ref a1, .ref a2, .ref a3, .ref a4, .int 0, .ref a5, .ref a6, .ref a7, .ref a8, .int 0, .int 0, .int 0, .int 0, .ref a9, .ref a10, .ref a11, .ref a12, .ref a13]))]) (As := [.int 1]) (rest := []) (wr := []) ⟨hx, hb, hml, hown, hts⟩ (kX4_fail_0 l hfl dC dI cI cZ cJ cD a0 a1 a2 a3 a4 a5 a6 a7 a8 a9 a10 a11 a12 a13 _) q756 okX4_fail hP hD hK hE hS hA [0] [] rfl rfl (by decide) (by decide) (by decide) (ci := 4) rfl 0 rfl rfl rfl hl.1 rfl (Nat.le_of_ble_eq_true rfl) ⟨rfl, rfl⟩ ⟨Nat.le_of_ble_eq_true rfl, Nat.le_of_ble_eq_true rfl⟩ ⟨Nat.le_of_ble_eq_true rfl, Nat.le_of_ble_eq_true rfl⟩ dX4_addVariable_26 (fun H locs hP hD hS => ?_)
  have hP : va_P (dC, dI) vwCl [(a0, .inr (4, [.int 1, .int 0, .ref a1, .ref a2, .ref a3, .ref a4, .int 0, .ref a5, .ref a6, .ref a7, .ref a8, .int 0, .int 0, .int 0, .int 0, .ref a9, .ref a10, .ref a11, .ref a12, .ref a13]))] H := hP
  have hD : va_D A [(a0, .inr (4, [.int 1, .int 0, .ref a1, .ref a2, .ref a3, .ref a4, .int 0, .ref a5, .ref a6, .ref a7, .ref a8, .int 0, .int 0, .int 0, .int 0, .ref a9, .ref a10, .ref a11, .ref a12, .ref a13]))] := hD
  refine W.eq (g2 := F0 m 29 ls [.int 0]) rfl ?_
  exact xr_i hx hb hr hlocks hP hD hS [0] rfl (by decide) (Nat.le_of_ble_eq_true rfl) (Nat.le_of_ble_eq_true rfl) dX4_addVariable_29
set_option maxHeartbeats 4000000 in
set_option maxRecDepth 100000 in
theorem kX3_addVariable_3 (l : Launch) (hfl : l.stackTraces = false) (dC : Nat → ClassId) (dI : Nat → Nat → Nat) (cI cZ cJ cD : ClassId) (a0 : Nat) (x0 x1 : Int32) (sz : Nat) (h0 : ¬ x0 < 2) (h1 : x0 ≤ 4) (h2 : ¬ x1 < 0) (h3 : ¬ x1 < x0) : vx_Met l yX3_addVariable (ws_ yX3_addVariable cX3_addVariable 3 (some .int)) (rm_ 1 1 6) (PC (dC, dI) (tyL cI cZ cJ cD) [] sz [.ref a0, .int x0, .int x1]) QN (XR nIAE (va_A [] sz)) 1 6 (va_A [] sz) := by
  refine xm_x (cls := nIAE) (by decide +kernel) (Nat.le_of_ble_eq_true rfl) ?_
  intro p e s m below meth c A ls hx hb hr hml hown hts hlocks hno hK hP hD hE hA hS hl
  have hown : s.vm.findClass RX3 = some m.cls := hown
  have hl : lv_has ls 3 [(0, .ref a0), (1, .int x0), (2, .int x1)] := hl
  have hP : va_P (dC, dI) vwCl [] s.heap := hP
  refine lv_iload_n hx hb dX3_addVariable_0 rfl (lv_at hl 1 rfl) ?_
  refine lv_iconst (v := 2) hx hb dX3_addVariable_1 (by decide) ?_
  refine lv_icmp_lt (tgt := 10) hx hb dX3_addVariable_2 (by decide) (fun h9 => absurd h9 h0) (fun _ => ?_)
  refine lv_iload_n hx hb dX3_addVariable_5 rfl (lv_at hl 1 rfl) ?_
  refine lv_iconst (v := 4) hx hb dX3_addVariable_6 (by decide) ?_
  refine lv_icmp_le (tgt := 20) hx hb dX3_addVariable_7 (by decide) (fun _ => ?_) (fun h9 => absurd h1 h9)
  refine lv_iload_n hx hb dX3_addVariable_20 rfl (lv_at hl 2 rfl) ?_
  refine lv_if_lt (tgt := 29) hx hb dX3_addVariable_21 (by decide) (fun h9 => absurd h9 h2) (fun _ => ?_)
  refine lv_iload_n hx hb dX3_addVariable_24 rfl (lv_at hl 2 rfl) ?_
  refine lv_iload_n hx hb dX3_addVariable_25 rfl (lv_at hl 1 rfl) ?_
  refine lv_icmp_lt (tgt := 39) hx hb dX3_addVariable_26 (by decide) (fun h9 => absurd h9 h3) (fun _ => ?_)
  exact xx_throw (cls := nIAE) hx hb hfl hown hts tok_IAE q397 q9 hE.2.2.cIAE (hE.2.2.st.2.1) hE hS (hl.1.trans hml.symm) hno hlocks dX3_addVariable_29 dX3_addVariable_32 dX3_addVariable_33 dX3_addVariable_35 dX3_addVariable_38 (Nat.le_of_ble_eq_true rfl) (Nat.le_of_ble_eq_true rfl) (Nat.le_of_ble_eq_true rfl) (Nat.le_of_ble_eq_true rfl) (Nat.le_of_ble_eq_true rfl) (Nat.le_of_ble_eq_true rfl)
set_option maxHeartbeats 4000000 in
set_option maxRecDepth 100000 in
theorem kL_addVariable_3 (l : Launch) (hfl : l.stackTraces = false) (dC : Nat → ClassId) (dI : Nat → Nat → Nat) (cI cZ cJ cD : ClassId) (a0 a1 a2 a3 a4 : Nat) (x0 x1 : Int32) (sz : Nat) (h0 : ¬ x0 < 2) (h1 : x0 ≤ 4) (h2 : ¬ x1 < 0) (h3 : ¬ x1 < x0) : Met l yL_addVariable (wh_ yL_addVariable cL_addVariable 5 (some .int) [(0, 10, 13, 13), (0, 10, 17, 15)]) (rm_ 2 1 6) (PC (dC, dI) (tyL cI cZ cJ cD) [(a0, .inr (3, [.ref a2, .ref a3, .ref a4, .int 0]))] sz [.ref a0, .int x0, .int x1, .ref a1]) (QR (dC, dI) [(a0, .inr (3, [.ref a2, .ref a3, .ref a4, .int 0]))] (some (.int 1)) (va_A [(a0, .inr (3, [.ref a2, .ref a3, .ref a4, .int 0]))] sz)) 1 6 (va_A [(a0, .inr (3, [.ref a2, .ref a3, .ref a4, .int 0]))] sz) := by
  refine xm_h (QQ := QR (dC, dI) [(a0, .inr (3, [.ref a2, .ref a3, .ref a4, .int 0]))] (some (.int 1))) (by decide +kernel) (Nat.le_of_ble_eq_true rfl) ?_
  intro p e s m below meth c A ls hx hb hr hml hown hts hlocks htab hK hP hD hE hA hS hl
  have hown : s.vm.findClass RL = some m.cls := hown
  have hl : lv_has ls 5 [(0, .ref a0), (1, .int x0), (2, .int x1), (3, .ref a1)] := hl
  have hP : va_P (dC, dI) vwCl [(a0, .inr (3, [.ref a2, .ref a3, .ref a4, .int 0]))] s.heap := hP
  refine lv_aload_n hx hb dL_addVariable_0 rfl (lv_at hl 3 rfl) ?_
  refine lv_iconst (v := 0) hx hb dL_addVariable_1 (by decide) ?_
  refine lv_aload_n hx hb dL_addVariable_2 rfl (lv_at hl 0 rfl) ?_
  refine lv_iload_n hx hb dL_addVariable_3 rfl (lv_at hl 1 rfl) ?_
  refine lv_iload_n hx hb dL_addVariable_4 rfl (lv_at hl 2 rfl) ?_
  refine xx_V (b := a0) (wc := []) (As := [.int x0, .int x1]) (rest := [.int 0, .ref a1]) (wr := [(a0, .inr (3, [.ref a2, .ref a3, .ref a4, .int 0]))]) ⟨hx, hb, hml, hown, hts⟩ (kX3_addVariable_3 l hfl dC dI cI cZ cJ cD a0 x0 x1 _ h0 h1 h2 h3) q393 okX3_addVariable hP hD hK hE hS hA [] [0] rfl rfl (by decide) (by decide) (by decide) (ci := 3) rfl 0 rfl rfl rfl hl.1 rfl (Nat.le_of_ble_eq_true rfl) ⟨rfl, rfl⟩ ⟨Nat.le_of_ble_eq_true rfl, Nat.le_of_ble_eq_true rfl⟩ ⟨Nat.le_of_ble_eq_true rfl, Nat.le_of_ble_eq_true rfl⟩ dL_addVariable_5 (fun q9 ce H locs h1 h2 h3 hP hD hS => ?_)
  refine vx_catch (own := RL) (name := nIAE) (E := nIAE) hown [] ⟨0, 10, 13, 13⟩ [⟨0, 10, 17, 15⟩] htab (fun z hz => by cases hz) (by decide) (by decide) (hts _ q391) (hE.2.2.cIAE.use rfl) h1 h2 h3 ?_
  refine W.eq (g2 := F0 m 13 ls [.ref q9]) rfl ?_
  refine lv_astore (lv' := [(4, .ref q9), (0, .ref a0), (1, .int x0), (2, .int x1), (3, .ref a1)]) hx hb dL_addVariable_13 hl (by decide) rfl (fun ls hl => ?_)
  refine lv_iconst (v := 1) hx hb dL_addVariable_15 (by decide) ?_
  exact xr_i hx hb hr hlocks hP hD hS [0] rfl (by decide) (Nat.le_of_ble_eq_true rfl) (Nat.le_of_ble_eq_true rfl) dL_addVariable_16
set_option maxHeartbeats 4000000 in
set_option maxRecDepth 100000 in
theorem kX4_addVariable_3 (l : Launch) (hfl : l.stackTraces = false) (dC : Nat → ClassId) (dI : Nat → Nat → Nat) (cI cZ cJ cD : ClassId) (a0 a1 a2 a3 a4 a5 a6 a7 a8 a9 a10 a11 a12 a13 : Nat) (x0 x1 : Int32) (sz : Nat) (h0 : ¬ x0 < 2) (h1 : x0 ≤ 4) (h2 : ¬ x1 < 0) (h3 : ¬ x1 < x0) : Met l yX4_addVariable (ws_ yX4_addVariable cX4_addVariable 3 (some .int)) (rm_ 2 0 0) (PC (dC, dI) (tyL cI cZ cJ cD) [(a0, .inr (4, [.int 0, .int 0, .ref a1, .ref a2, .ref a3, .ref a4, .int 0, .ref a5, .ref a6, .ref a7, .ref a8, .int 0, .int 0, .int 0, .int 0, .ref a9, .ref a10, .ref a11, .ref a12, .ref a13]))] sz [.ref a0, .int x0, .int x1]) (QR (dC, dI) [(a0, .inr (4, [.int 1, .int 0, .ref a1, .ref a2, .ref a3, .ref a4, .int 0, .ref a5, .ref a6, .ref a7, .ref a8, .int 0, .int 0, .int 0, .int 0, .ref a9, .ref a10, .ref a11, .ref a12, .ref a13]))] (some (.int 0)) (va_A [(a0, .inr (4, [.int 0, .int 0, .ref a1, .ref a2, .ref a3, .ref a4, .int 0, .ref a5, .ref a6, .ref a7, .ref a8, .int 0, .int 0, .int 0, .int 0, .ref a9, .ref a10, .ref a11, .ref a12, .ref a13]))] sz)) 0 0 (va_A [(a0, .inr (4, [.int 0, .int 0, .ref a1, .ref a2, .ref a3, .ref a4, .int 0, .ref a5, .ref a6, .ref a7, .ref a8, .int 0, .int 0, .int 0, .int 0, .ref a9, .ref a10, .ref a11, .ref a12, .ref a13]))] sz) := by
  refine xm_of (QQ := QR (dC, dI) [(a0, .inr (4, [.int 1, .int 0, .ref a1, .ref a2, .ref a3, .ref a4, .int 0, .ref a5, .ref a6, .ref a7, .ref a8, .int 0, .int 0, .int 0, .int 0, .ref a9, .ref a10, .ref a11, .ref a12, .ref a13]))] (some (.int 0))) (by decide +kernel) (Nat.le_of_ble_eq_true rfl) ?_
  intro p e s m below meth c A ls hx hb hr hml hown hts hlocks hin hK hP hD hE hA hS hl
  have hown : s.vm.findClass RX4 = some m.cls := hown
  have hl : lv_has ls 3 [(0, .ref a0), (1, .int x0), (2, .int x1)] := hl
  have hP : va_P (dC, dI) vwCl [(a0, .inr (4, [.int 0, .int 0, .ref a1, .ref a2, .ref a3, .ref a4, .int 0, .ref a5, .ref a6, .ref a7, .ref a8, .int 0, .int 0, .int 0, .int 0, .ref a9, .ref a10, .ref a11, .ref a12, .ref a13]))] s.heap := hP
  refine lv_aload_n hx hb dX4_addVariable_0 rfl (lv_at hl 0 rfl) ?_
  refine lv_iconst (v := 0) hx hb dX4_addVariable_1 (by decide) ?_
  refine va_put (D := (dC, dI)) (ci := 4) (v := .int 0) (ty := .int) (C := RX4) (T := TX4) (N := 20) hx hb hts inX4 tyX4 tyX4_ok nmX4 hown hK hP hD hS 0 rfl rfl 0 (by decide) (hts _ q687) (fun _ h9 => h9) rfl (by decide +kernel) rfl rfl (Nat.le_of_ble_eq_true rfl) dX4_addVariable_2 (fun H locs hP hD hS => ?_)
  have hP : va_P (dC, dI) vwCl [(a0, .inr (4, [.int 0, .int 0, .ref a1, .ref a2, .ref a3, .ref a4, .int 0, .ref a5, .ref a6, .ref a7, .ref a8, .int 0, .int 0, .int 0, .int 0, .ref a9, .ref a10, .ref a11, .ref a12, .ref a13]))] H := hP
  have hD : va_D A [(a0, .inr (4, [.int 0, .int 0, .ref a1, .ref a2, .ref a3, .ref a4, .int 0, .ref a5, .ref a6, .ref a7, .ref a8, .int 0, .int 0, .int 0, .int 0, .ref a9, .ref a10, .ref a11, .ref a12, .ref a13]))] := hD
  refine lv_iload_n hx hb dX4_addVariable_5 rfl (lv_at hl 1 rfl) ?_
  refine lv_iconst (v := 2) hx hb dX4_addVariable_6 (by decide) ?_
  refine lv_icmp_lt (tgt := 24) hx hb dX4_addVariable_7 (by decide) (fun h9 => absurd h9 h0) (fun _ => ?_)
  refine lv_iload_n hx hb dX4_addVariable_10 rfl (lv_at hl 1 rfl) ?_
  refine lv_iconst (v := 4) hx hb dX4_addVariable_11 (by decide) ?_
  refine lv_icmp_gt (tgt := 24) hx hb dX4_addVariable_12 (by decide) (fun h9 => absurd h9 (i_nlt h1)) (fun _ => ?_)
  refine lv_iload_n hx hb dX4_addVariable_15 rfl (lv_at hl 2 rfl) ?_
  refine lv_if_lt (tgt := 24) hx hb dX4_addVariable_16 (by decide) (fun h9 => absurd h9 h2) (fun _ => ?_)
  refine lv_iload_n hx hb dX4_addVariable_19 rfl (lv_at hl 2 rfl) ?_
  refine lv_iload_n hx hb dX4_addVariable_20 rfl (lv_at hl 1 rfl) ?_
  refine lv_icmp_lt (tgt := 30) hx hb dX4_addVariable_21 (by decide) (fun h9 => absurd h9 h3) (fun _ => ?_)
  refine lv_aload_n hx hb dX4_addVariable_24 rfl (lv_at hl 0 rfl) ?_
  refine lv_iconst (v := 1) hx hb dX4_addVariable_25 (by decide) ?_
  refine xc_V (b := a0) (wc := [(a0, .inr (4, [.int 0, .int 0, .ref a1, .ref a2, .ref a3, .ref a4, .int 0, .ref a5, .ref a6, .ref a7, .ref a8, .int 0, .int 0, .int 0, .int 0, .ref a9, .ref a10, .ref a11, .ref a12, .ref a13]))]) (As := [.int 1]) (rest := []) (wr := []) ⟨hx, hb, hml, hown, hts⟩ (kX4_fail_0 l hfl dC dI cI cZ cJ cD a0 a1 a2 a3 a4 a5 a6 a7 a8 a9 a10 a11 a12 a13 _) q756 okX4_fail hP hD hK hE hS hA [0] [] rfl rfl (by decide) (by decide) (by decide) (ci := 4) rfl 0 rfl rfl rfl hl.1 rfl (Nat.le_of_ble_eq_true rfl) ⟨rfl, rfl⟩ ⟨Nat.le_of_ble_eq_true rfl, Nat.le_of_ble_eq_true rfl⟩ ⟨Nat.le_of_ble_eq_true rfl, Nat.le_of_ble_eq_true rfl⟩ dX4_addVariable_26 (fun H locs hP hD hS => ?_)
  have hP : va_P (dC, dI) vwCl [(a0, .inr (4, [.int 1, .int 0, .ref a1, .ref a2, .ref a3, .ref a4, .int 0, .ref a5, .ref a6, .ref a7, .ref a8, .int 0, .int 0, .int 0, .int 0, .ref a9, .ref a10, .ref a11, .ref a12, .ref a13]))] H := hP
  have hD : va_D A [(a0, .inr (4, [.int 1, .int 0, .ref a1, .ref a2, .ref a3, .ref a4, .int 0, .ref a5, .ref a6, .ref a7, .ref a8, .int 0, .int 0, .int 0, .int 0, .ref a9, .ref a10, .ref a11, .ref a12, .ref a13]))] := hD
  refine W.eq (g2 := F0 m 29 ls [.int 0]) rfl ?_
  exact xr_i hx hb hr hlocks hP hD hS [0] rfl (by decide) (Nat.le_of_ble_eq_true rfl) (Nat.le_of_ble_eq_true rfl) dX4_addVariable_29
set_option maxHeartbeats 4000000 in
set_option maxRecDepth 100000 in
theorem kX1_greatestValue_0 (l : Launch) (hfl : l.stackTraces = false) (dC : Nat → ClassId) (dI : Nat → Nat → Nat) (cI cZ cJ cD : ClassId) (a0 a1 a2 a3 a4 a5 a6 a7 a8 a9 a10 a11 : Nat) (x0 : Int32) (sz : Nat) : Met l yX1_greatestValue (ws_ yX1_greatestValue cX1_greatestValue 2 (some .int)) (rm_ 1 0 0) (PC (dC, dI) (tyL cI cZ cJ cD) [(a0, .inr (1, [.int 0, .ref a1, .ref a2, .ref a3, .ref a4, .ref a5, .ref a6, .ref a7, .int 0, .ref a8, .ref a9, .ref a10, .ref a11])), (a1, .inl (cI, 4, .inl (upd (fun _ => 0) 0 x0)))] sz [.ref a0, .int 0]) (QR (dC, dI) [(a0, .inr (1, [.int 0, .ref a1, .ref a2, .ref a3, .ref a4, .ref a5, .ref a6, .ref a7, .int 0, .ref a8, .ref a9, .ref a10, .ref a11])), (a1, .inl (cI, 4, .inl (upd (fun _ => 0) 0 x0)))] (some (.int (((2 : Int32) * x0) - (2 : Int32)))) (va_A [(a0, .inr (1, [.int 0, .ref a1, .ref a2, .ref a3, .ref a4, .ref a5, .ref a6, .ref a7, .int 0, .ref a8, .ref a9, .ref a10, .ref a11])), (a1, .inl (cI, 4, .inl (upd (fun _ => 0) 0 x0)))] sz)) 0 0 (va_A [(a0, .inr (1, [.int 0, .ref a1, .ref a2, .ref a3, .ref a4, .ref a5, .ref a6, .ref a7, .int 0, .ref a8, .ref a9, .ref a10, .ref a11])), (a1, .inl (cI, 4, .inl (upd (fun _ => 0) 0 x0)))] sz) := by
  refine xm_of (QQ := QR (dC, dI) [(a0, .inr (1, [.int 0, .ref a1, .ref a2, .ref a3, .ref a4, .ref a5, .ref a6, .ref a7, .int 0, .ref a8, .ref a9, .ref a10, .ref a11])), (a1, .inl (cI, 4, .inl (upd (fun _ => 0) 0 x0)))] (some (.int (((2 : Int32) * x0) - (2 : Int32))))) (by decide +kernel) (Nat.le_of_ble_eq_true rfl) ?_
  intro p e s m below meth c A ls hx hb hr hml hown hts hlocks hin hK hP hD hE hA hS hl
  have hown : s.vm.findClass RX1 = some m.cls := hown
  have hl : lv_has ls 2 [(0, .ref a0), (1, .int 0)] := hl
  have hP : va_P (dC, dI) vwCl [(a0, .inr (1, [.int 0, .ref a1, .ref a2, .ref a3, .ref a4, .ref a5, .ref a6, .ref a7, .int 0, .ref a8, .ref a9, .ref a10, .ref a11])), (a1, .inl (cI, 4, .inl (upd (fun _ => 0) 0 x0)))] s.heap := hP
  refine lv_iconst (v := 2) hx hb dX1_greatestValue_0 (by decide) ?_
  refine lv_aload_n hx hb dX1_greatestValue_1 rfl (lv_at hl 0 rfl) ?_
  refine va_get (D := (dC, dI)) (ci := 1) (v := .ref a1) (C := RX1) (T := TX1) (N := 13) hx hb hts inX1 hown hK hP 0 rfl rfl 1 (by decide) (hts _ q33) (fun _ h9 => h9) rfl dX1_greatestValue_2 ?_
  refine lv_iload_n hx hb dX1_greatestValue_5 rfl (lv_at hl 1 rfl) ?_
  refine xa_iald (k := 0) (v := x0) hx hb hK hP 1 0 rfl rfl (by decide) (by decide +kernel) (Nat.le_of_ble_eq_true rfl) rfl dX1_greatestValue_6 ?_
  refine lv_imul hx hb dX1_greatestValue_7 ?_
  refine lv_iconst (v := 2) hx hb dX1_greatestValue_8 (by decide) ?_
  refine lv_isub hx hb dX1_greatestValue_9 ?_
  exact xr_i hx hb hr hlocks hP hD hS [0, 1] rfl (by decide) (Nat.le_of_ble_eq_true rfl) (Nat.le_of_ble_eq_true rfl) dX1_greatestValue_10
set_option maxHeartbeats 4000000 in
set_option maxRecDepth 100000 in
theorem kX3_codeOf_0 (l : Launch) (hfl : l.stackTraces = false) (dC : Nat → ClassId) (dI : Nat → Nat → Nat) (cI cZ cJ cD : ClassId) (x0 : Int32) (sz : Nat) : Met l yX3_codeOf (ws_ yX3_codeOf cX3_codeOf 2 (some .int)) (rm_ 1 0 0) (PC (dC, dI) (tyL cI cZ cJ cD) [] sz [.int x0, .int 2]) (QR (dC, dI) [] (some (.int ((((3 : Int32) * x0) + (2 : Int32)) + (1 : Int32)))) (va_A [] sz)) 0 0 (va_A [] sz) := by
  refine xm_of (QQ := QR (dC, dI) [] (some (.int ((((3 : Int32) * x0) + (2 : Int32)) + (1 : Int32))))) (by decide +kernel) (Nat.le_of_ble_eq_true rfl) ?_
  intro p e s m below meth c A ls hx hb hr hml hown hts hlocks hin hK hP hD hE hA hS hl
  have hown : s.vm.findClass RX3 = some m.cls := hown
  have hl : lv_has ls 2 [(0, .int x0), (1, .int 2)] := hl
  have hP : va_P (dC, dI) vwCl [] s.heap := hP
  refine lv_iconst (v := 3) hx hb dX3_codeOf_0 (by decide) ?_
  refine lv_iload_n hx hb dX3_codeOf_1 rfl (lv_at hl 0 rfl) ?_
  refine lv_imul hx hb dX3_codeOf_2 ?_
  refine lv_iload_n hx hb dX3_codeOf_3 rfl (lv_at hl 1 rfl) ?_
  refine lv_iadd hx hb dX3_codeOf_4 ?_
  refine lv_iconst (v := 1) hx hb dX3_codeOf_5 (by decide) ?_
  refine lv_iadd hx hb dX3_codeOf_6 ?_
  exact xr_i hx hb hr hlocks hP hD hS [] rfl (by decide) (Nat.le_of_ble_eq_true rfl) (Nat.le_of_ble_eq_true rfl) dX3_codeOf_7
set_option maxHeartbeats 4000000 in
set_option maxRecDepth 100000 in
theorem kX3_codeOf_1 (l : Launch) (hfl : l.stackTraces = false) (dC : Nat → ClassId) (dI : Nat → Nat → Nat) (cI cZ cJ cD : ClassId) (x0 : Int32) (sz : Nat) : Met l yX3_codeOf (ws_ yX3_codeOf cX3_codeOf 2 (some .int)) (rm_ 1 0 0) (PC (dC, dI) (tyL cI cZ cJ cD) [] sz [.int x0, .int (-1)]) (QR (dC, dI) [] (some (.int ((((3 : Int32) * x0) + (-1 : Int32)) + (1 : Int32)))) (va_A [] sz)) 0 0 (va_A [] sz) := by
  refine xm_of (QQ := QR (dC, dI) [] (some (.int ((((3 : Int32) * x0) + (-1 : Int32)) + (1 : Int32))))) (by decide +kernel) (Nat.le_of_ble_eq_true rfl) ?_
  intro p e s m below meth c A ls hx hb hr hml hown hts hlocks hin hK hP hD hE hA hS hl
  have hown : s.vm.findClass RX3 = some m.cls := hown
  have hl : lv_has ls 2 [(0, .int x0), (1, .int (-1))] := hl
  have hP : va_P (dC, dI) vwCl [] s.heap := hP
  refine lv_iconst (v := 3) hx hb dX3_codeOf_0 (by decide) ?_
  refine lv_iload_n hx hb dX3_codeOf_1 rfl (lv_at hl 0 rfl) ?_
  refine lv_imul hx hb dX3_codeOf_2 ?_
  refine lv_iload_n hx hb dX3_codeOf_3 rfl (lv_at hl 1 rfl) ?_
  refine lv_iadd hx hb dX3_codeOf_4 ?_
  refine lv_iconst (v := 1) hx hb dX3_codeOf_5 (by decide) ?_
  refine lv_iadd hx hb dX3_codeOf_6 ?_
  exact xr_i hx hb hr hlocks hP hD hS [] rfl (by decide) (Nat.le_of_ble_eq_true rfl) (Nat.le_of_ble_eq_true rfl) dX3_codeOf_7
set_option maxHeartbeats 4000000 in
set_option maxRecDepth 100000 in
theorem kX1_appendVariable_0 (l : Launch) (hfl : l.stackTraces = false) (dC : Nat → ClassId) (dI : Nat → Nat → Nat) (cI cZ cJ cD : ClassId) (a0 a1 a2 a3 a4 a5 a6 a7 a8 a9 a10 a11 : Nat) (x0 x1 : Int32) (sz : Nat) : Met l yX1_appendVariable (ws_ yX1_appendVariable cX1_appendVariable 5 (some .int)) (rm_ 2 0 0) (PC (dC, dI) (tyL cI cZ cJ cD) [(a0, .inr (1, [.int 0, .ref a1, .ref a2, .ref a3, .ref a4, .ref a5, .ref a6, .ref a7, .int 0, .ref a8, .ref a9, .ref a10, .ref a11])), (a1, .inl (cI, 4, .inl (fun _ => 0))), (a2, .inl (cI, 4, .inl (fun _ => 0))), (a3, .inl (cI, 4, .inl (fun _ => 0))), (a4, .inl (cI, 4, .inl (fun _ => 0))), (a5, .inl (cI, 4, .inl (fun _ => 0))), (a6, .inl (cI, 4, .inl (fun _ => 0))), (a7, .inl (cI, 4, .inl (fun _ => 0)))] sz [.ref a0, .int x0, .int x1]) (QR (dC, dI) [(a0, .inr (1, [.int 1, .ref a1, .ref a2, .ref a3, .ref a4, .ref a5, .ref a6, .ref a7, .int 0, .ref a8, .ref a9, .ref a10, .ref a11])), (a1, .inl (cI, 4, .inl (upd (fun _ => 0) 0 x0))), (a2, .inl (cI, 4, .inl (upd (fun _ => 0) 0 x1))), (a3, .inl (cI, 4, .inl (upd (fun _ => 0) 0 (-1)))), (a4, .inl (cI, 4, .inl (upd (fun _ => 0) 0 2))), (a5, .inl (cI, 4, .inl (upd (fun _ => 0) 0 (((1 : Int32) <<< (((((3 : Int32) * ((2 : Int32) * x1)) + (-1 : Int32)) + (1 : Int32)) &&& 31)) - (1 : Int32))))), (a6, .inl (cI, 4, .inl (upd (fun _ => 0) 0 ((7 : Int32) <<< (((((3 : Int32) * ((2 : Int32) * x1)) + (-1 : Int32)) + (1 : Int32)) &&& 31))))), (a7, .inl (cI, 4, .inl (upd (fun _ => 0) 0 (((((1 : Int32) <<< (((((3 : Int32) * (((2 : Int32) * x0) - (2 : Int32))) + (2 : Int32)) + (1 : Int32)) &&& 31)) - (1 : Int32)) &&& ((((1 : Int32) <<< (((((3 : Int32) * ((2 : Int32) * x1)) + (-1 : Int32)) + (1 : Int32)) &&& 31)) - (1 : Int32)) ^^^ (-1 : Int32))) &&& (((7 : Int32) <<< (((((3 : Int32) * ((2 : Int32) * x1)) + (-1 : Int32)) + (1 : Int32)) &&& 31)) ^^^ (-1 : Int32))))))] (some (.int 0)) (va_A [(a0, .inr (1, [.int 0, .ref a1, .ref a2, .ref a3, .ref a4, .ref a5, .ref a6, .ref a7, .int 0, .ref a8, .ref a9, .ref a10, .ref a11])), (a1, .inl (cI, 4, .inl (fun _ => 0))), (a2, .inl (cI, 4, .inl (fun _ => 0))), (a3, .inl (cI, 4, .inl (fun _ => 0))), (a4, .inl (cI, 4, .inl (fun _ => 0))), (a5, .inl (cI, 4, .inl (fun _ => 0))), (a6, .inl (cI, 4, .inl (fun _ => 0))), (a7, .inl (cI, 4, .inl (fun _ => 0)))] sz)) 0 0 (va_A [(a0, .inr (1, [.int 0, .ref a1, .ref a2, .ref a3, .ref a4, .ref a5, .ref a6, .ref a7, .int 0, .ref a8, .ref a9, .ref a10, .ref a11])), (a1, .inl (cI, 4, .inl (fun _ => 0))), (a2, .inl (cI, 4, .inl (fun _ => 0))), (a3, .inl (cI, 4, .inl (fun _ => 0))), (a4, .inl (cI, 4, .inl (fun _ => 0))), (a5, .inl (cI, 4, .inl (fun _ => 0))), (a6, .inl (cI, 4, .inl (fun _ => 0))), (a7, .inl (cI, 4, .inl (fun _ => 0)))] sz) := by
  refine xm_of (QQ := QR (dC, dI) [(a0, .inr (1, [.int 1, .ref a1, .ref a2, .ref a3, .ref a4, .ref a5, .ref a6, .ref a7, .int 0, .ref a8, .ref a9, .ref a10, .ref a11])), (a1, .inl (cI, 4, .inl (upd (fun _ => 0) 0 x0))), (a2, .inl (cI, 4, .inl (upd (fun _ => 0) 0 x1))), (a3, .inl (cI, 4, .inl (upd (fun _ => 0) 0 (-1)))), (a4, .inl (cI, 4, .inl (upd (fun _ => 0) 0 2))), (a5, .inl (cI, 4, .inl (upd (fun _ => 0) 0 (((1 : Int32) <<< (((((3 : Int32) * ((2 : Int32) * x1)) + (-1 : Int32)) + (1 : Int32)) &&& 31)) - (1 : Int32))))), (a6, .inl (cI, 4, .inl (upd (fun _ => 0) 0 ((7 : Int32) <<< (((((3 : Int32) * ((2 : Int32) * x1)) + (-1 : Int32)) + (1 : Int32)) &&& 31))))), (a7, .inl (cI, 4, .inl (upd (fun _ => 0) 0 (((((1 : Int32) <<< (((((3 : Int32) * (((2 : Int32) * x0) - (2 : Int32))) + (2 : Int32)) + (1 : Int32)) &&& 31)) - (1 : Int32)) &&& ((((1 : Int32) <<< (((((3 : Int32) * ((2 : Int32) * x1)) + (-1 : Int32)) + (1 : Int32)) &&& 31)) - (1 : Int32)) ^^^ (-1 : Int32))) &&& (((7 : Int32) <<< (((((3 : Int32) * ((2 : Int32) * x1)) + (-1 : Int32)) + (1 : Int32)) &&& 31)) ^^^ (-1 : Int32))))))] (some (.int 0))) (by decide +kernel) (Nat.le_of_ble_eq_true rfl) ?_
  intro p e s m below meth c A ls hx hb hr hml hown hts hlocks hin hK hP hD hE hA hS hl
  have hown : s.vm.findClass RX1 = some m.cls := hown
  have hl : lv_has ls 5 [(0, .ref a0), (1, .int x0), (2, .int x1)] := hl
  have hP : va_P (dC, dI) vwCl [(a0, .inr (1, [.int 0, .ref a1, .ref a2, .ref a3, .ref a4, .ref a5, .ref a6, .ref a7, .int 0, .ref a8, .ref a9, .ref a10, .ref a11])), (a1, .inl (cI, 4, .inl (fun _ => 0))), (a2, .inl (cI, 4, .inl (fun _ => 0))), (a3, .inl (cI, 4, .inl (fun _ => 0))), (a4, .inl (cI, 4, .inl (fun _ => 0))), (a5, .inl (cI, 4, .inl (fun _ => 0))), (a6, .inl (cI, 4, .inl (fun _ => 0))), (a7, .inl (cI, 4, .inl (fun _ => 0)))] s.heap := hP
  refine lv_aload_n hx hb dX1_appendVariable_0 rfl (lv_at hl 0 rfl) ?_
  refine va_get (D := (dC, dI)) (ci := 1) (v := .int 0) (C := RX1) (T := TX1) (N := 13) hx hb hts inX1 hown hK hP 0 rfl rfl 0 (by decide) (hts _ q30) (fun _ h9 => h9) rfl dX1_appendVariable_1 ?_
  refine lv_istore_n (lv' := [(3, .int 0), (0, .ref a0), (1, .int x0), (2, .int x1)]) hx hb dX1_appendVariable_4 rfl hl (by decide) rfl (fun ls hl => ?_)
  refine lv_aload_n hx hb dX1_appendVariable_5 rfl (lv_at hl 1 rfl) ?_
  refine va_get (D := (dC, dI)) (ci := 1) (v := .ref a1) (C := RX1) (T := TX1) (N := 13) hx hb hts inX1 hown hK hP 0 rfl rfl 1 (by decide) (hts _ q33) (fun _ h9 => h9) rfl dX1_appendVariable_6 ?_
  refine lv_iload_n hx hb dX1_appendVariable_9 rfl (lv_at hl 0 rfl) ?_
  refine lv_iload_n hx hb dX1_appendVariable_10 rfl (lv_at hl 2 rfl) ?_
  refine xa_iast (k := 0) (w1 := [(a0, .inr (1, [.int 0, .ref a1, .ref a2, .ref a3, .ref a4, .ref a5, .ref a6, .ref a7, .int 0, .ref a8, .ref a9, .ref a10, .ref a11])), (a1, .inl (cI, 4, .inl (upd (fun _ => 0) 0 x0))), (a2, .inl (cI, 4, .inl (fun _ => 0))), (a3, .inl (cI, 4, .inl (fun _ => 0))), (a4, .inl (cI, 4, .inl (fun _ => 0))), (a5, .inl (cI, 4, .inl (fun _ => 0))), (a6, .inl (cI, 4, .inl (fun _ => 0))), (a7, .inl (cI, 4, .inl (fun _ => 0)))]) hx hb hK hP hD hS 1 0 rfl rfl (by decide) (by decide +kernel) (Nat.le_of_ble_eq_true rfl) rfl dX1_appendVariable_11 (fun H locs hP hD hS => ?_)
  refine lv_aload_n hx hb dX1_appendVariable_12 rfl (lv_at hl 1 rfl) ?_
  refine va_get (D := (dC, dI)) (ci := 1) (v := .ref a2) (C := RX1) (T := TX1) (N := 13) hx hb hts inX1 hown hK hP 0 rfl rfl 2 (by decide) (hts _ q35) (fun _ h9 => h9) rfl dX1_appendVariable_13 ?_
  refine lv_iload_n hx hb dX1_appendVariable_16 rfl (lv_at hl 0 rfl) ?_
  refine lv_iload_n hx hb dX1_appendVariable_17 rfl (lv_at hl 3 rfl) ?_
  refine xa_iast (k := 0) (w1 := [(a0, .inr (1, [.int 0, .ref a1, .ref a2, .ref a3, .ref a4, .ref a5, .ref a6, .ref a7, .int 0, .ref a8, .ref a9, .ref a10, .ref a11])), (a1, .inl (cI, 4, .inl (upd (fun _ => 0) 0 x0))), (a2, .inl (cI, 4, .inl (upd (fun _ => 0) 0 x1))), (a3, .inl (cI, 4, .inl (fun _ => 0))), (a4, .inl (cI, 4, .inl (fun _ => 0))), (a5, .inl (cI, 4, .inl (fun _ => 0))), (a6, .inl (cI, 4, .inl (fun _ => 0))), (a7, .inl (cI, 4, .inl (fun _ => 0)))]) hx hb hK hP hD hS 2 0 rfl rfl (by decide) (by decide +kernel) (Nat.le_of_ble_eq_true rfl) rfl dX1_appendVariable_18 (fun H locs hP hD hS => ?_)
  refine lv_aload_n hx hb dX1_appendVariable_19 rfl (lv_at hl 1 rfl) ?_
  refine va_get (D := (dC, dI)) (ci := 1) (v := .ref a3) (C := RX1) (T := TX1) (N := 13) hx hb hts inX1 hown hK hP 0 rfl rfl 3 (by decide) (hts _ q37) (fun _ h9 => h9) rfl dX1_appendVariable_20 ?_
  refine lv_iload_n hx hb dX1_appendVariable_23 rfl (lv_at hl 0 rfl) ?_
  refine lv_iconst (v := (-1)) hx hb dX1_appendVariable_24 (by decide) ?_
  refine xa_iast (k := 0) (w1 := [(a0, .inr (1, [.int 0, .ref a1, .ref a2, .ref a3, .ref a4, .ref a5, .ref a6, .ref a7, .int 0, .ref a8, .ref a9, .ref a10, .ref a11])), (a1, .inl (cI, 4, .inl (upd (fun _ => 0) 0 x0))), (a2, .inl (cI, 4, .inl (upd (fun _ => 0) 0 x1))), (a3, .inl (cI, 4, .inl (upd (fun _ => 0) 0 (-1)))), (a4, .inl (cI, 4, .inl (fun _ => 0))), (a5, .inl (cI, 4, .inl (fun _ => 0))), (a6, .inl (cI, 4, .inl (fun _ => 0))), (a7, .inl (cI, 4, .inl (fun _ => 0)))]) hx hb hK hP hD hS 3 0 rfl rfl (by decide) (by decide +kernel) (Nat.le_of_ble_eq_true rfl) rfl dX1_appendVariable_25 (fun H locs hP hD hS => ?_)
  refine lv_aload_n hx hb dX1_appendVariable_26 rfl (lv_at hl 1 rfl) ?_
  refine va_get (D := (dC, dI)) (ci := 1) (v := .ref a4) (C := RX1) (T := TX1) (N := 13) hx hb hts inX1 hown hK hP 0 rfl rfl 4 (by decide) (hts _ q39) (fun _ h9 => h9) rfl dX1_appendVariable_27 ?_
  refine lv_iload_n hx hb dX1_appendVariable_30 rfl (lv_at hl 0 rfl) ?_
  refine lv_iconst (v := 2) hx hb dX1_appendVariable_31 (by decide) ?_
  refine xa_iast (k := 0) (w1 := [(a0, .inr (1, [.int 0, .ref a1, .ref a2, .ref a3, .ref a4, .ref a5, .ref a6, .ref a7, .int 0, .ref a8, .ref a9, .ref a10, .ref a11])), (a1, .inl (cI, 4, .inl (upd (fun _ => 0) 0 x0))), (a2, .inl (cI, 4, .inl (upd (fun _ => 0) 0 x1))), (a3, .inl (cI, 4, .inl (upd (fun _ => 0) 0 (-1)))), (a4, .inl (cI, 4, .inl (upd (fun _ => 0) 0 2))), (a5, .inl (cI, 4, .inl (fun _ => 0))), (a6, .inl (cI, 4, .inl (fun _ => 0))), (a7, .inl (cI, 4, .inl (fun _ => 0)))]) hx hb hK hP hD hS 4 0 rfl rfl (by decide) (by decide +kernel) (Nat.le_of_ble_eq_true rfl) rfl dX1_appendVariable_32 (fun H locs hP hD hS => ?_)
  refine lv_iconst (v := 1) hx hb dX1_appendVariable_33 (by decide) ?_
  refine lv_aload_n hx hb dX1_appendVariable_34 rfl (lv_at hl 1 rfl) ?_
  refine lv_iload_n hx hb dX1_appendVariable_35 rfl (lv_at hl 0 rfl) ?_
  refine xc_V (b := a0) (wc := [(a0, .inr (1, [.int 0, .ref a1, .ref a2, .ref a3, .ref a4, .ref a5, .ref a6, .ref a7, .int 0, .ref a8, .ref a9, .ref a10, .ref a11])), (a1, .inl (cI, 4, .inl (upd (fun _ => 0) 0 x0)))]) (As := [.int 0]) (rest := [.int 1]) (wr := [(a2, .inl (cI, 4, .inl (upd (fun _ => 0) 0 x1))), (a3, .inl (cI, 4, .inl (upd (fun _ => 0) 0 (-1)))), (a4, .inl (cI, 4, .inl (upd (fun _ => 0) 0 2))), (a5, .inl (cI, 4, .inl (fun _ => 0))), (a6, .inl (cI, 4, .inl (fun _ => 0))), (a7, .inl (cI, 4, .inl (fun _ => 0)))]) ⟨hx, hb, hml, hown, hts⟩ (kX1_greatestValue_0 l hfl dC dI cI cZ cJ cD a0 a1 a2 a3 a4 a5 a6 a7 a8 a9 a10 a11 x0 _) q230 okX1_greatestValue hP hD hK hE hS hA [0, 1] [2, 3, 4, 5, 6, 7] rfl rfl (by decide) (by decide) (by decide) (ci := 1) rfl 0 rfl rfl rfl hl.1 rfl (Nat.le_of_ble_eq_true rfl) ⟨rfl, rfl⟩ ⟨Nat.le_of_ble_eq_true rfl, Nat.le_of_ble_eq_true rfl⟩ ⟨Nat.le_of_ble_eq_true rfl, Nat.le_of_ble_eq_true rfl⟩ dX1_appendVariable_36 (fun H locs hP hD hS => ?_)
  have hP : va_P (dC, dI) vwCl [(a2, .inl (cI, 4, .inl (upd (fun _ => 0) 0 x1))), (a3, .inl (cI, 4, .inl (upd (fun _ => 0) 0 (-1)))), (a4, .inl (cI, 4, .inl (upd (fun _ => 0) 0 2))), (a5, .inl (cI, 4, .inl (fun _ => 0))), (a6, .inl (cI, 4, .inl (fun _ => 0))), (a7, .inl (cI, 4, .inl (fun _ => 0))), (a0, .inr (1, [.int 0, .ref a1, .ref a2, .ref a3, .ref a4, .ref a5, .ref a6, .ref a7, .int 0, .ref a8, .ref a9, .ref a10, .ref a11])), (a1, .inl (cI, 4, .inl (upd (fun _ => 0) 0 x0)))] H := hP
  have hD : va_D A [(a2, .inl (cI, 4, .inl (upd (fun _ => 0) 0 x1))), (a3, .inl (cI, 4, .inl (upd (fun _ => 0) 0 (-1)))), (a4, .inl (cI, 4, .inl (upd (fun _ => 0) 0 2))), (a5, .inl (cI, 4, .inl (fun _ => 0))), (a6, .inl (cI, 4, .inl (fun _ => 0))), (a7, .inl (cI, 4, .inl (fun _ => 0))), (a0, .inr (1, [.int 0, .ref a1, .ref a2, .ref a3, .ref a4, .ref a5, .ref a6, .ref a7, .int 0, .ref a8, .ref a9, .ref a10, .ref a11])), (a1, .inl (cI, 4, .inl (upd (fun _ => 0) 0 x0)))] := hD
  refine W.eq (g2 := F0 m 39 ls [.int (((2 : Int32) * x0) - (2 : Int32)), .int 1]) rfl ?_
  refine lv_iconst (v := 2) hx hb dX1_appendVariable_39 (by decide) ?_
  refine xc_SN (wc := []) (As := [.int (((2 : Int32) * x0) - (2 : Int32)), .int 2]) (rest := [.int 1]) (wr := [(a2, .inl (cI, 4, .inl (upd (fun _ => 0) 0 x1))), (a3, .inl (cI, 4, .inl (upd (fun _ => 0) 0 (-1)))), (a4, .inl (cI, 4, .inl (upd (fun _ => 0) 0 2))), (a5, .inl (cI, 4, .inl (fun _ => 0))), (a6, .inl (cI, 4, .inl (fun _ => 0))), (a7, .inl (cI, 4, .inl (fun _ => 0))), (a0, .inr (1, [.int 0, .ref a1, .ref a2, .ref a3, .ref a4, .ref a5, .ref a6, .ref a7, .int 0, .ref a8, .ref a9, .ref a10, .ref a11])), (a1, .inl (cI, 4, .inl (upd (fun _ => 0) 0 x0)))]) ⟨hx, hb, hml, hown, hts⟩ (kX3_codeOf_0 l hfl dC dI cI cZ cJ cD (((2 : Int32) * x0) - (2 : Int32)) _) (hE.2.2.nC) okX3_codeOf hP hD hK hE hS hA [] [0, 1, 2, 3, 4, 5, 6, 7] rfl rfl (by decide) (by decide) (by decide) rfl hl.1 rfl (Nat.le_of_ble_eq_true rfl) ⟨rfl, rfl⟩ ⟨Nat.le_of_ble_eq_true rfl, Nat.le_of_ble_eq_true rfl⟩ ⟨Nat.le_of_ble_eq_true rfl, Nat.le_of_ble_eq_true rfl⟩ dX1_appendVariable_40 (fun H locs hP hD hS => ?_)
  have hP : va_P (dC, dI) vwCl [(a2, .inl (cI, 4, .inl (upd (fun _ => 0) 0 x1))), (a3, .inl (cI, 4, .inl (upd (fun _ => 0) 0 (-1)))), (a4, .inl (cI, 4, .inl (upd (fun _ => 0) 0 2))), (a5, .inl (cI, 4, .inl (fun _ => 0))), (a6, .inl (cI, 4, .inl (fun _ => 0))), (a7, .inl (cI, 4, .inl (fun _ => 0))), (a0, .inr (1, [.int 0, .ref a1, .ref a2, .ref a3, .ref a4, .ref a5, .ref a6, .ref a7, .int 0, .ref a8, .ref a9, .ref a10, .ref a11])), (a1, .inl (cI, 4, .inl (upd (fun _ => 0) 0 x0)))] H := hP
  have hD : va_D A [(a2, .inl (cI, 4, .inl (upd (fun _ => 0) 0 x1))), (a3, .inl (cI, 4, .inl (upd (fun _ => 0) 0 (-1)))), (a4, .inl (cI, 4, .inl (upd (fun _ => 0) 0 2))), (a5, .inl (cI, 4, .inl (fun _ => 0))), (a6, .inl (cI, 4, .inl (fun _ => 0))), (a7, .inl (cI, 4, .inl (fun _ => 0))), (a0, .inr (1, [.int 0, .ref a1, .ref a2, .ref a3, .ref a4, .ref a5, .ref a6, .ref a7, .int 0, .ref a8, .ref a9, .ref a10, .ref a11])), (a1, .inl (cI, 4, .inl (upd (fun _ => 0) 0 x0)))] := hD
  refine W.eq (g2 := F0 m 43 ls [.int ((((3 : Int32) * (((2 : Int32) * x0) - (2 : Int32))) + (2 : Int32)) + (1 : Int32)), .int 1]) rfl ?_
  refine lv_ishl hx hb dX1_appendVariable_43 ?_
  refine lv_iconst (v := 1) hx hb dX1_appendVariable_44 (by decide) ?_
  refine lv_isub hx hb dX1_appendVariable_45 ?_
  refine lv_istore (lv' := [(4, .int (((1 : Int32) <<< (((((3 : Int32) * (((2 : Int32) * x0) - (2 : Int32))) + (2 : Int32)) + (1 : Int32)) &&& 31)) - (1 : Int32))), (3, .int 0), (0, .ref a0), (1, .int x0), (2, .int x1)]) hx hb dX1_appendVariable_46 hl (by decide) rfl (fun ls hl => ?_)
  refine lv_aload_n hx hb dX1_appendVariable_48 rfl (lv_at hl 2 rfl) ?_
  refine va_get (D := (dC, dI)) (ci := 1) (v := .ref a5) (C := RX1) (T := TX1) (N := 13) hx hb hts inX1 hown hK hP 6 rfl rfl 5 (by decide) (hts _ q41) (fun _ h9 => h9) rfl dX1_appendVariable_49 ?_
  refine lv_iload_n hx hb dX1_appendVariable_52 rfl (lv_at hl 1 rfl) ?_
  refine lv_iconst (v := 1) hx hb dX1_appendVariable_53 (by decide) ?_
  refine lv_iconst (v := 2) hx hb dX1_appendVariable_54 (by decide) ?_
  refine lv_iload_n hx hb dX1_appendVariable_55 rfl (lv_at hl 4 rfl) ?_
  refine lv_imul hx hb dX1_appendVariable_56 ?_
  refine lv_iconst (v := (-1)) hx hb dX1_appendVariable_57 (by decide) ?_
  refine xc_SN (wc := []) (As := [.int ((2 : Int32) * x1), .int (-1)]) (rest := [.int 1, .int 0, .ref a5]) (wr := [(a2, .inl (cI, 4, .inl (upd (fun _ => 0) 0 x1))), (a3, .inl (cI, 4, .inl (upd (fun _ => 0) 0 (-1)))), (a4, .inl (cI, 4, .inl (upd (fun _ => 0) 0 2))), (a5, .inl (cI, 4, .inl (fun _ => 0))), (a6, .inl (cI, 4, .inl (fun _ => 0))), (a7, .inl (cI, 4, .inl (fun _ => 0))), (a0, .inr (1, [.int 0, .ref a1, .ref a2, .ref a3, .ref a4, .ref a5, .ref a6, .ref a7, .int 0, .ref a8, .ref a9, .ref a10, .ref a11])), (a1, .inl (cI, 4, .inl (upd (fun _ => 0) 0 x0)))]) ⟨hx, hb, hml, hown, hts⟩ (kX3_codeOf_1 l hfl dC dI cI cZ cJ cD ((2 : Int32) * x1) _) (hE.2.2.nC) okX3_codeOf hP hD hK hE hS hA [] [0, 1, 2, 3, 4, 5, 6, 7] rfl rfl (by decide) (by decide) (by decide) rfl hl.1 rfl (Nat.le_of_ble_eq_true rfl) ⟨rfl, rfl⟩ ⟨Nat.le_of_ble_eq_true rfl, Nat.le_of_ble_eq_true rfl⟩ ⟨Nat.le_of_ble_eq_true rfl, Nat.le_of_ble_eq_true rfl⟩ dX1_appendVariable_58 (fun H locs hP hD hS => ?_)
  have hP : va_P (dC, dI) vwCl [(a2, .inl (cI, 4, .inl (upd (fun _ => 0) 0 x1))), (a3, .inl (cI, 4, .inl (upd (fun _ => 0) 0 (-1)))), (a4, .inl (cI, 4, .inl (upd (fun _ => 0) 0 2))), (a5, .inl (cI, 4, .inl (fun _ => 0))), (a6, .inl (cI, 4, .inl (fun _ => 0))), (a7, .inl (cI, 4, .inl (fun _ => 0))), (a0, .inr (1, [.int 0, .ref a1, .ref a2, .ref a3, .ref a4, .ref a5, .ref a6, .ref a7, .int 0, .ref a8, .ref a9, .ref a10, .ref a11])), (a1, .inl (cI, 4, .inl (upd (fun _ => 0) 0 x0)))] H := hP
  have hD : va_D A [(a2, .inl (cI, 4, .inl (upd (fun _ => 0) 0 x1))), (a3, .inl (cI, 4, .inl (upd (fun _ => 0) 0 (-1)))), (a4, .inl (cI, 4, .inl (upd (fun _ => 0) 0 2))), (a5, .inl (cI, 4, .inl (fun _ => 0))), (a6, .inl (cI, 4, .inl (fun _ => 0))), (a7, .inl (cI, 4, .inl (fun _ => 0))), (a0, .inr (1, [.int 0, .ref a1, .ref a2, .ref a3, .ref a4, .ref a5, .ref a6, .ref a7, .int 0, .ref a8, .ref a9, .ref a10, .ref a11])), (a1, .inl (cI, 4, .inl (upd (fun _ => 0) 0 x0)))] := hD
  refine W.eq (g2 := F0 m 61 ls [.int ((((3 : Int32) * ((2 : Int32) * x1)) + (-1 : Int32)) + (1 : Int32)), .int 1, .int 0, .ref a5]) rfl ?_
  refine lv_ishl hx hb dX1_appendVariable_61 ?_
  refine lv_iconst (v := 1) hx hb dX1_appendVariable_62 (by decide) ?_
  refine lv_isub hx hb dX1_appendVariable_63 ?_
  refine xa_iast (k := 0) (w1 := [(a2, .inl (cI, 4, .inl (upd (fun _ => 0) 0 x1))), (a3, .inl (cI, 4, .inl (upd (fun _ => 0) 0 (-1)))), (a4, .inl (cI, 4, .inl (upd (fun _ => 0) 0 2))), (a5, .inl (cI, 4, .inl (upd (fun _ => 0) 0 (((1 : Int32) <<< (((((3 : Int32) * ((2 : Int32) * x1)) + (-1 : Int32)) + (1 : Int32)) &&& 31)) - (1 : Int32))))), (a6, .inl (cI, 4, .inl (fun _ => 0))), (a7, .inl (cI, 4, .inl (fun _ => 0))), (a0, .inr (1, [.int 0, .ref a1, .ref a2, .ref a3, .ref a4, .ref a5, .ref a6, .ref a7, .int 0, .ref a8, .ref a9, .ref a10, .ref a11])), (a1, .inl (cI, 4, .inl (upd (fun _ => 0) 0 x0)))]) hx hb hK hP hD hS 3 0 rfl rfl (by decide) (by decide +kernel) (Nat.le_of_ble_eq_true rfl) rfl dX1_appendVariable_64 (fun H locs hP hD hS => ?_)
  refine lv_aload_n hx hb dX1_appendVariable_65 rfl (lv_at hl 2 rfl) ?_
  refine va_get (D := (dC, dI)) (ci := 1) (v := .ref a6) (C := RX1) (T := TX1) (N := 13) hx hb hts inX1 hown hK hP 6 rfl rfl 6 (by decide) (hts _ q42) (fun _ h9 => h9) rfl dX1_appendVariable_66 ?_
  refine lv_iload_n hx hb dX1_appendVariable_69 rfl (lv_at hl 1 rfl) ?_
  refine lv_bipush (v := 7) hx hb dX1_appendVariable_70 (by decide) ?_
  refine lv_iconst (v := 2) hx hb dX1_appendVariable_72 (by decide) ?_
  refine lv_iload_n hx hb dX1_appendVariable_73 rfl (lv_at hl 4 rfl) ?_
  refine lv_imul hx hb dX1_appendVariable_74 ?_
  refine lv_iconst (v := (-1)) hx hb dX1_appendVariable_75 (by decide) ?_
  refine xc_SN (wc := []) (As := [.int ((2 : Int32) * x1), .int (-1)]) (rest := [.int 7, .int 0, .ref a6]) (wr := [(a2, .inl (cI, 4, .inl (upd (fun _ => 0) 0 x1))), (a3, .inl (cI, 4, .inl (upd (fun _ => 0) 0 (-1)))), (a4, .inl (cI, 4, .inl (upd (fun _ => 0) 0 2))), (a5, .inl (cI, 4, .inl (upd (fun _ => 0) 0 (((1 : Int32) <<< (((((3 : Int32) * ((2 : Int32) * x1)) + (-1 : Int32)) + (1 : Int32)) &&& 31)) - (1 : Int32))))), (a6, .inl (cI, 4, .inl (fun _ => 0))), (a7, .inl (cI, 4, .inl (fun _ => 0))), (a0, .inr (1, [.int 0, .ref a1, .ref a2, .ref a3, .ref a4, .ref a5, .ref a6, .ref a7, .int 0, .ref a8, .ref a9, .ref a10, .ref a11])), (a1, .inl (cI, 4, .inl (upd (fun _ => 0) 0 x0)))]) ⟨hx, hb, hml, hown, hts⟩ (kX3_codeOf_1 l hfl dC dI cI cZ cJ cD ((2 : Int32) * x1) _) (hE.2.2.nC) okX3_codeOf hP hD hK hE hS hA [] [0, 1, 2, 3, 4, 5, 6, 7] rfl rfl (by decide) (by decide) (by decide) rfl hl.1 rfl (Nat.le_of_ble_eq_true rfl) ⟨rfl, rfl⟩ ⟨Nat.le_of_ble_eq_true rfl, Nat.le_of_ble_eq_true rfl⟩ ⟨Nat.le_of_ble_eq_true rfl, Nat.le_of_ble_eq_true rfl⟩ dX1_appendVariable_76 (fun H locs hP hD hS => ?_)
  have hP : va_P (dC, dI) vwCl [(a2, .inl (cI, 4, .inl (upd (fun _ => 0) 0 x1))), (a3, .inl (cI, 4, .inl (upd (fun _ => 0) 0 (-1)))), (a4, .inl (cI, 4, .inl (upd (fun _ => 0) 0 2))), (a5, .inl (cI, 4, .inl (upd (fun _ => 0) 0 (((1 : Int32) <<< (((((3 : Int32) * ((2 : Int32) * x1)) + (-1 : Int32)) + (1 : Int32)) &&& 31)) - (1 : Int32))))), (a6, .inl (cI, 4, .inl (fun _ => 0))), (a7, .inl (cI, 4, .inl (fun _ => 0))), (a0, .inr (1, [.int 0, .ref a1, .ref a2, .ref a3, .ref a4, .ref a5, .ref a6, .ref a7, .int 0, .ref a8, .ref a9, .ref a10, .ref a11])), (a1, .inl (cI, 4, .inl (upd (fun _ => 0) 0 x0)))] H := hP
  have hD : va_D A [(a2, .inl (cI, 4, .inl (upd (fun _ => 0) 0 x1))), (a3, .inl (cI, 4, .inl (upd (fun _ => 0) 0 (-1)))), (a4, .inl (cI, 4, .inl (upd (fun _ => 0) 0 2))), (a5, .inl (cI, 4, .inl (upd (fun _ => 0) 0 (((1 : Int32) <<< (((((3 : Int32) * ((2 : Int32) * x1)) + (-1 : Int32)) + (1 : Int32)) &&& 31)) - (1 : Int32))))), (a6, .inl (cI, 4, .inl (fun _ => 0))), (a7, .inl (cI, 4, .inl (fun _ => 0))), (a0, .inr (1, [.int 0, .ref a1, .ref a2, .ref a3, .ref a4, .ref a5, .ref a6, .ref a7, .int 0, .ref a8, .ref a9, .ref a10, .ref a11])), (a1, .inl (cI, 4, .inl (upd (fun _ => 0) 0 x0)))] := hD
  refine W.eq (g2 := F0 m 79 ls [.int ((((3 : Int32) * ((2 : Int32) * x1)) + (-1 : Int32)) + (1 : Int32)), .int 7, .int 0, .ref a6]) rfl ?_
  refine lv_ishl hx hb dX1_appendVariable_79 ?_
  refine xa_iast (k := 0) (w1 := [(a2, .inl (cI, 4, .inl (upd (fun _ => 0) 0 x1))), (a3, .inl (cI, 4, .inl (upd (fun _ => 0) 0 (-1)))), (a4, .inl (cI, 4, .inl (upd (fun _ => 0) 0 2))), (a5, .inl (cI, 4, .inl (upd (fun _ => 0) 0 (((1 : Int32) <<< (((((3 : Int32) * ((2 : Int32) * x1)) + (-1 : Int32)) + (1 : Int32)) &&& 31)) - (1 : Int32))))), (a6, .inl (cI, 4, .inl (upd (fun _ => 0) 0 ((7 : Int32) <<< (((((3 : Int32) * ((2 : Int32) * x1)) + (-1 : Int32)) + (1 : Int32)) &&& 31))))), (a7, .inl (cI, 4, .inl (fun _ => 0))), (a0, .inr (1, [.int 0, .ref a1, .ref a2, .ref a3, .ref a4, .ref a5, .ref a6, .ref a7, .int 0, .ref a8, .ref a9, .ref a10, .ref a11])), (a1, .inl (cI, 4, .inl (upd (fun _ => 0) 0 x0)))]) hx hb hK hP hD hS 4 0 rfl rfl (by decide) (by decide +kernel) (Nat.le_of_ble_eq_true rfl) rfl dX1_appendVariable_80 (fun H locs hP hD hS => ?_)
  refine lv_aload_n hx hb dX1_appendVariable_81 rfl (lv_at hl 2 rfl) ?_
  refine va_get (D := (dC, dI)) (ci := 1) (v := .ref a7) (C := RX1) (T := TX1) (N := 13) hx hb hts inX1 hown hK hP 6 rfl rfl 7 (by decide) (hts _ q43) (fun _ h9 => h9) rfl dX1_appendVariable_82 ?_
  refine lv_iload_n hx hb dX1_appendVariable_85 rfl (lv_at hl 1 rfl) ?_
  refine lv_iload hx hb dX1_appendVariable_86 (lv_at hl 0 rfl) ?_
  refine lv_aload_n hx hb dX1_appendVariable_88 rfl (lv_at hl 2 rfl) ?_
  refine va_get (D := (dC, dI)) (ci := 1) (v := .ref a5) (C := RX1) (T := TX1) (N := 13) hx hb hts inX1 hown hK hP 6 rfl rfl 5 (by decide) (hts _ q41) (fun _ h9 => h9) rfl dX1_appendVariable_89 ?_
  refine lv_iload_n hx hb dX1_appendVariable_92 rfl (lv_at hl 1 rfl) ?_
  refine xa_iald (k := 0) (v := (((1 : Int32) <<< (((((3 : Int32) * ((2 : Int32) * x1)) + (-1 : Int32)) + (1 : Int32)) &&& 31)) - (1 : Int32))) hx hb hK hP 3 0 rfl rfl (by decide) (by decide +kernel) (Nat.le_of_ble_eq_true rfl) rfl dX1_appendVariable_93 ?_
  refine lv_iconst (v := (-1)) hx hb dX1_appendVariable_94 (by decide) ?_
  refine lv_ixor hx hb dX1_appendVariable_95 ?_
  refine lv_iand hx hb dX1_appendVariable_96 ?_
  refine lv_aload_n hx hb dX1_appendVariable_97 rfl (lv_at hl 2 rfl) ?_
  refine va_get (D := (dC, dI)) (ci := 1) (v := .ref a6) (C := RX1) (T := TX1) (N := 13) hx hb hts inX1 hown hK hP 6 rfl rfl 6 (by decide) (hts _ q42) (fun _ h9 => h9) rfl dX1_appendVariable_98 ?_
  refine lv_iload_n hx hb dX1_appendVariable_101 rfl (lv_at hl 1 rfl) ?_
  refine xa_iald (k := 0) (v := ((7 : Int32) <<< (((((3 : Int32) * ((2 : Int32) * x1)) + (-1 : Int32)) + (1 : Int32)) &&& 31))) hx hb hK hP 4 0 rfl rfl (by decide) (by decide +kernel) (Nat.le_of_ble_eq_true rfl) rfl dX1_appendVariable_102 ?_
  refine lv_iconst (v := (-1)) hx hb dX1_appendVariable_103 (by decide) ?_
  refine lv_ixor hx hb dX1_appendVariable_104 ?_
  refine lv_iand hx hb dX1_appendVariable_105 ?_
  refine xa_iast (k := 0) (w1 := [(a2, .inl (cI, 4, .inl (upd (fun _ => 0) 0 x1))), (a3, .inl (cI, 4, .inl (upd (fun _ => 0) 0 (-1)))), (a4, .inl (cI, 4, .inl (upd (fun _ => 0) 0 2))), (a5, .inl (cI, 4, .inl (upd (fun _ => 0) 0 (((1 : Int32) <<< (((((3 : Int32) * ((2 : Int32) * x1)) + (-1 : Int32)) + (1 : Int32)) &&& 31)) - (1 : Int32))))), (a6, .inl (cI, 4, .inl (upd (fun _ => 0) 0 ((7 : Int32) <<< (((((3 : Int32) * ((2 : Int32) * x1)) + (-1 : Int32)) + (1 : Int32)) &&& 31))))), (a7, .inl (cI, 4, .inl (upd (fun _ => 0) 0 (((((1 : Int32) <<< (((((3 : Int32) * (((2 : Int32) * x0) - (2 : Int32))) + (2 : Int32)) + (1 : Int32)) &&& 31)) - (1 : Int32)) &&& ((((1 : Int32) <<< (((((3 : Int32) * ((2 : Int32) * x1)) + (-1 : Int32)) + (1 : Int32)) &&& 31)) - (1 : Int32)) ^^^ (-1 : Int32))) &&& (((7 : Int32) <<< (((((3 : Int32) * ((2 : Int32) * x1)) + (-1 : Int32)) + (1 : Int32)) &&& 31)) ^^^ (-1 : Int32)))))), (a0, .inr (1, [.int 0, .ref a1, .ref a2, .ref a3, .ref a4, .ref a5, .ref a6, .ref a7, .int 0, .ref a8, .ref a9, .ref a10, .ref a11])), (a1, .inl (cI, 4, .inl (upd (fun _ => 0) 0 x0)))]) hx hb hK hP hD hS 5 0 rfl rfl (by decide) (by decide +kernel) (Nat.le_of_ble_eq_true rfl) rfl dX1_appendVariable_106 (fun H locs hP hD hS => ?_)
  refine lv_aload_n hx hb dX1_appendVariable_107 rfl (lv_at hl 2 rfl) ?_
  refine lv_dup hx hb dX1_appendVariable_108 rfl ?_
  refine va_get (D := (dC, dI)) (ci := 1) (v := .int 0) (C := RX1) (T := TX1) (N := 13) hx hb hts inX1 hown hK hP 6 rfl rfl 0 (by decide) (hts _ q30) (fun _ h9 => h9) rfl dX1_appendVariable_109 ?_
  refine lv_iconst (v := 1) hx hb dX1_appendVariable_112 (by decide) ?_
  refine lv_iadd hx hb dX1_appendVariable_113 ?_
  refine tI (v := 1) (by decide +kernel) ?_
  refine va_put (D := (dC, dI)) (ci := 1) (v := .int 1) (ty := .int) (C := RX1) (T := TX1) (N := 13) hx hb hts inX1 tyX1 tyX1_ok nmX1 hown hK hP hD hS 6 rfl rfl 0 (by decide) (hts _ q30) (fun _ h9 => h9) rfl (by decide +kernel) rfl rfl (Nat.le_of_ble_eq_true rfl) dX1_appendVariable_114 (fun H locs hP hD hS => ?_)
  have hP : va_P (dC, dI) vwCl [(a2, .inl (cI, 4, .inl (upd (fun _ => 0) 0 x1))), (a3, .inl (cI, 4, .inl (upd (fun _ => 0) 0 (-1)))), (a4, .inl (cI, 4, .inl (upd (fun _ => 0) 0 2))), (a5, .inl (cI, 4, .inl (upd (fun _ => 0) 0 (((1 : Int32) <<< (((((3 : Int32) * ((2 : Int32) * x1)) + (-1 : Int32)) + (1 : Int32)) &&& 31)) - (1 : Int32))))), (a6, .inl (cI, 4, .inl (upd (fun _ => 0) 0 ((7 : Int32) <<< (((((3 : Int32) * ((2 : Int32) * x1)) + (-1 : Int32)) + (1 : Int32)) &&& 31))))), (a7, .inl (cI, 4, .inl (upd (fun _ => 0) 0 (((((1 : Int32) <<< (((((3 : Int32) * (((2 : Int32) * x0) - (2 : Int32))) + (2 : Int32)) + (1 : Int32)) &&& 31)) - (1 : Int32)) &&& ((((1 : Int32) <<< (((((3 : Int32) * ((2 : Int32) * x1)) + (-1 : Int32)) + (1 : Int32)) &&& 31)) - (1 : Int32)) ^^^ (-1 : Int32))) &&& (((7 : Int32) <<< (((((3 : Int32) * ((2 : Int32) * x1)) + (-1 : Int32)) + (1 : Int32)) &&& 31)) ^^^ (-1 : Int32)))))), (a0, .inr (1, [.int 1, .ref a1, .ref a2, .ref a3, .ref a4, .ref a5, .ref a6, .ref a7, .int 0, .ref a8, .ref a9, .ref a10, .ref a11])), (a1, .inl (cI, 4, .inl (upd (fun _ => 0) 0 x0)))] H := hP
  have hD : va_D A [(a2, .inl (cI, 4, .inl (upd (fun _ => 0) 0 x1))), (a3, .inl (cI, 4, .inl (upd (fun _ => 0) 0 (-1)))), (a4, .inl (cI, 4, .inl (upd (fun _ => 0) 0 2))), (a5, .inl (cI, 4, .inl (upd (fun _ => 0) 0 (((1 : Int32) <<< (((((3 : Int32) * ((2 : Int32) * x1)) + (-1 : Int32)) + (1 : Int32)) &&& 31)) - (1 : Int32))))), (a6, .inl (cI, 4, .inl (upd (fun _ => 0) 0 ((7 : Int32) <<< (((((3 : Int32) * ((2 : Int32) * x1)) + (-1 : Int32)) + (1 : Int32)) &&& 31))))), (a7, .inl (cI, 4, .inl (upd (fun _ => 0) 0 (((((1 : Int32) <<< (((((3 : Int32) * (((2 : Int32) * x0) - (2 : Int32))) + (2 : Int32)) + (1 : Int32)) &&& 31)) - (1 : Int32)) &&& ((((1 : Int32) <<< (((((3 : Int32) * ((2 : Int32) * x1)) + (-1 : Int32)) + (1 : Int32)) &&& 31)) - (1 : Int32)) ^^^ (-1 : Int32))) &&& (((7 : Int32) <<< (((((3 : Int32) * ((2 : Int32) * x1)) + (-1 : Int32)) + (1 : Int32)) &&& 31)) ^^^ (-1 : Int32)))))), (a0, .inr (1, [.int 1, .ref a1, .ref a2, .ref a3, .ref a4, .ref a5, .ref a6, .ref a7, .int 0, .ref a8, .ref a9, .ref a10, .ref a11])), (a1, .inl (cI, 4, .inl (upd (fun _ => 0) 0 x0)))] := hD
  refine lv_iload_n hx hb dX1_appendVariable_117 rfl (lv_at hl 1 rfl) ?_
  exact xr_i hx hb hr hlocks hP hD hS [6, 7, 0, 1, 2, 3, 4, 5] rfl (by decide) (Nat.le_of_ble_eq_true rfl) (Nat.le_of_ble_eq_true rfl) dX1_appendVariable_118
