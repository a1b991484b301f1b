set_option maxHeartbeats 4000000 in
set_option maxRecDepth 100000 in
theorem kX4_fail_1 (l : Launch) (hfl : l.stackTraces = false) (dC : Nat → ClassId) (dI : Nat → Nat → Nat) (cI cZ cJ cD : ClassId) (a0 a1 a2 a3 a4 a5 a6 a7 a8 a9 a10 a11 a12 a13 : Nat) (sz : Nat) : Met l yX4_fail (ws_ yX4_fail cX4_fail 2 (some .int)) (rm_ 1 0 0) (PC (dC, dI) (tyL cI cZ cJ cD) [(a0, .inr (4, [.int 0, .int 0, .ref a1, .ref a2, .ref a3, .ref a4, .int 0, .ref a5, .ref a6, .ref a7, .ref a8, .int 0, .int 0, .int 0, .int 0, .ref a9, .ref a10, .ref a11, .ref a12, .ref a13]))] sz [.ref a0, .int 2]) (QR (dC, dI) [(a0, .inr (4, [.int 2, .int 0, .ref a1, .ref a2, .ref a3, .ref a4, .int 0, .ref a5, .ref a6, .ref a7, .ref a8, .int 0, .int 0, .int 0, .int 0, .ref a9, .ref a10, .ref a11, .ref a12, .ref a13]))] (some (.int 0)) (va_A [(a0, .inr (4, [.int 0, .int 0, .ref a1, .ref a2, .ref a3, .ref a4, .int 0, .ref a5, .ref a6, .ref a7, .ref a8, .int 0, .int 0, .int 0, .int 0, .ref a9, .ref a10, .ref a11, .ref a12, .ref a13]))] sz)) 0 0 (va_A [(a0, .inr (4, [.int 0, .int 0, .ref a1, .ref a2, .ref a3, .ref a4, .int 0, .ref a5, .ref a6, .ref a7, .ref a8, .int 0, .int 0, .int 0, .int 0, .ref a9, .ref a10, .ref a11, .ref a12, .ref a13]))] sz) := by
  refine xm_of (QQ := QR (dC, dI) [(a0, .inr (4, [.int 2, .int 0, .ref a1, .ref a2, .ref a3, .ref a4, .int 0, .ref a5, .ref a6, .ref a7, .ref a8, .int 0, .int 0, .int 0, .int 0, .ref a9, .ref a10, .ref a11, .ref a12, .ref a13]))] (some (.int 0))) (by decide +kernel) (Nat.le_of_ble_eq_true rfl) ?_
  intro p e s m below meth c A ls hx hb hr hml hown hts hlocks hin hK hP hD hE hA hS hl
  have hown : s.vm.findClass RX4 = some m.cls := hown
  have hl : lv_has ls 2 [(0, .ref a0), (1, .int 2)] := hl
  have hP : va_P (dC, dI) vwCl [(a0, .inr (4, [.int 0, .int 0, .ref a1, .ref a2, .ref a3, .ref a4, .int 0, .ref a5, .ref a6, .ref a7, .ref a8, .int 0, .int 0, .int 0, .int 0, .ref a9, .ref a10, .ref a11, .ref a12, .ref a13]))] s.heap := hP
  refine lv_aload_n hx hb dX4_fail_0 rfl (lv_at hl 0 rfl) ?_
  refine lv_iload_n hx hb dX4_fail_1 rfl (lv_at hl 1 rfl) ?_
  refine va_put (D := (dC, dI)) (ci := 4) (v := .int 2) (ty := .int) (C := RX4) (T := TX4) (N := 20) hx hb hts inX4 tyX4 tyX4_ok nmX4 hown hK hP hD hS 0 rfl rfl 0 (by decide) (hts _ q687) (fun _ h9 => h9) rfl (by decide +kernel) rfl rfl (Nat.le_of_ble_eq_true rfl) dX4_fail_2 (fun H locs hP hD hS => ?_)
  have hP : va_P (dC, dI) vwCl [(a0, .inr (4, [.int 2, .int 0, .ref a1, .ref a2, .ref a3, .ref a4, .int 0, .ref a5, .ref a6, .ref a7, .ref a8, .int 0, .int 0, .int 0, .int 0, .ref a9, .ref a10, .ref a11, .ref a12, .ref a13]))] H := hP
  have hD : va_D A [(a0, .inr (4, [.int 2, .int 0, .ref a1, .ref a2, .ref a3, .ref a4, .int 0, .ref a5, .ref a6, .ref a7, .ref a8, .int 0, .int 0, .int 0, .int 0, .ref a9, .ref a10, .ref a11, .ref a12, .ref a13]))] := hD
  refine lv_iconst (v := 0) hx hb dX4_fail_5 (by decide) ?_
  exact xr_i hx hb hr hlocks hP hD hS [0] rfl (by decide) (Nat.le_of_ble_eq_true rfl) (Nat.le_of_ble_eq_true rfl) dX4_fail_6
set_option maxHeartbeats 4000000 in
set_option maxRecDepth 100000 in
theorem kX4_addConstraint_2 (l : Launch) (hfl : l.stackTraces = false) (dC : Nat → ClassId) (dI : Nat → Nat → Nat) (cI cZ cJ cD : ClassId) (a0 a1 a2 a3 a4 a5 a6 a7 a8 a9 a10 a11 a12 a13 : Nat) (x0 x1 x2 x3 : Int32) (sz : Nat) (h0 : ¬ x0 < 0) (h1 : x0 ≤ 5) (h2 : x1 < 0) : Met l yX4_addConstraint (ws_ yX4_addConstraint cX4_addConstraint 5 (some .int)) (rm_ 2 0 0) (PC (dC, dI) (tyL cI cZ cJ cD) [(a0, .inr (4, [.int 0, .int 0, .ref a1, .ref a2, .ref a3, .ref a4, .int 0, .ref a5, .ref a6, .ref a7, .ref a8, .int 0, .int 0, .int 0, .int 0, .ref a9, .ref a10, .ref a11, .ref a12, .ref a13]))] sz [.ref a0, .int x0, .int x1, .int x2, .int x3]) (QR (dC, dI) [(a0, .inr (4, [.int 2, .int 0, .ref a1, .ref a2, .ref a3, .ref a4, .int 0, .ref a5, .ref a6, .ref a7, .ref a8, .int 0, .int 0, .int 0, .int 0, .ref a9, .ref a10, .ref a11, .ref a12, .ref a13]))] (some (.int 0)) (va_A [(a0, .inr (4, [.int 0, .int 0, .ref a1, .ref a2, .ref a3, .ref a4, .int 0, .ref a5, .ref a6, .ref a7, .ref a8, .int 0, .int 0, .int 0, .int 0, .ref a9, .ref a10, .ref a11, .ref a12, .ref a13]))] sz)) 0 0 (va_A [(a0, .inr (4, [.int 0, .int 0, .ref a1, .ref a2, .ref a3, .ref a4, .int 0, .ref a5, .ref a6, .ref a7, .ref a8, .int 0, .int 0, .int 0, .int 0, .ref a9, .ref a10, .ref a11, .ref a12, .ref a13]))] sz) := by
  refine xm_of (QQ := QR (dC, dI) [(a0, .inr (4, [.int 2, .int 0, .ref a1, .ref a2, .ref a3, .ref a4, .int 0, .ref a5, .ref a6, .ref a7, .ref a8, .int 0, .int 0, .int 0, .int 0, .ref a9, .ref a10, .ref a11, .ref a12, .ref a13]))] (some (.int 0))) (by decide +kernel) (Nat.le_of_ble_eq_true rfl) ?_
  intro p e s m below meth c A ls hx hb hr hml hown hts hlocks hin hK hP hD hE hA hS hl
  have hown : s.vm.findClass RX4 = some m.cls := hown
  have hl : lv_has ls 5 [(0, .ref a0), (1, .int x0), (2, .int x1), (3, .int x2), (4, .int x3)] := hl
  have hP : va_P (dC, dI) vwCl [(a0, .inr (4, [.int 0, .int 0, .ref a1, .ref a2, .ref a3, .ref a4, .int 0, .ref a5, .ref a6, .ref a7, .ref a8, .int 0, .int 0, .int 0, .int 0, .ref a9, .ref a10, .ref a11, .ref a12, .ref a13]))] s.heap := hP
  refine lv_aload_n hx hb dX4_addConstraint_0 rfl (lv_at hl 0 rfl) ?_
  refine lv_iconst (v := 0) hx hb dX4_addConstraint_1 (by decide) ?_
  refine va_put (D := (dC, dI)) (ci := 4) (v := .int 0) (ty := .int) (C := RX4) (T := TX4) (N := 20) hx hb hts inX4 tyX4 tyX4_ok nmX4 hown hK hP hD hS 0 rfl rfl 0 (by decide) (hts _ q687) (fun _ h9 => h9) rfl (by decide +kernel) rfl rfl (Nat.le_of_ble_eq_true rfl) dX4_addConstraint_2 (fun H locs hP hD hS => ?_)
  have hP : va_P (dC, dI) vwCl [(a0, .inr (4, [.int 0, .int 0, .ref a1, .ref a2, .ref a3, .ref a4, .int 0, .ref a5, .ref a6, .ref a7, .ref a8, .int 0, .int 0, .int 0, .int 0, .ref a9, .ref a10, .ref a11, .ref a12, .ref a13]))] H := hP
  have hD : va_D A [(a0, .inr (4, [.int 0, .int 0, .ref a1, .ref a2, .ref a3, .ref a4, .int 0, .ref a5, .ref a6, .ref a7, .ref a8, .int 0, .int 0, .int 0, .int 0, .ref a9, .ref a10, .ref a11, .ref a12, .ref a13]))] := hD
  refine lv_iload_n hx hb dX4_addConstraint_5 rfl (lv_at hl 1 rfl) ?_
  refine lv_if_lt (tgt := 14) hx hb dX4_addConstraint_6 (by decide) (fun h9 => absurd h9 h0) (fun _ => ?_)
  refine lv_iload_n hx hb dX4_addConstraint_9 rfl (lv_at hl 1 rfl) ?_
  refine lv_iconst (v := 5) hx hb dX4_addConstraint_10 (by decide) ?_
  refine lv_icmp_le (tgt := 20) hx hb dX4_addConstraint_11 (by decide) (fun _ => ?_) (fun h9 => absurd h1 h9)
  refine lv_aload_n hx hb dX4_addConstraint_20 rfl (lv_at hl 0 rfl) ?_
  refine lv_iload_n hx hb dX4_addConstraint_21 rfl (lv_at hl 2 rfl) ?_
  refine xc_V (b := a0) (wc := []) (As := [.int x1]) (rest := []) (wr := [(a0, .inr (4, [.int 0, .int 0, .ref a1, .ref a2, .ref a3, .ref a4, .int 0, .ref a5, .ref a6, .ref a7, .ref a8, .int 0, .int 0, .int 0, .int 0, .ref a9, .ref a10, .ref a11, .ref a12, .ref a13]))]) ⟨hx, hb, hml, hown, hts⟩ (kX4_isVariable_0 l hfl dC dI cI cZ cJ cD a0 x1 _ h2) q764 okX4_isVariable hP hD hK hE hS hA [] [0] rfl rfl (by decide) (by decide) (by decide) (ci := 4) rfl 0 rfl rfl rfl hl.1 rfl (Nat.le_of_ble_eq_true rfl) ⟨rfl, rfl⟩ ⟨Nat.le_of_ble_eq_true rfl, Nat.le_of_ble_eq_true rfl⟩ ⟨Nat.le_of_ble_eq_true rfl, Nat.le_of_ble_eq_true rfl⟩ dX4_addConstraint_22 (fun H locs hP hD hS => ?_)
  have hP : va_P (dC, dI) vwCl [(a0, .inr (4, [.int 0, .int 0, .ref a1, .ref a2, .ref a3, .ref a4, .int 0, .ref a5, .ref a6, .ref a7, .ref a8, .int 0, .int 0, .int 0, .int 0, .ref a9, .ref a10, .ref a11, .ref a12, .ref a13]))] H := hP
  have hD : va_D A [(a0, .inr (4, [.int 0, .int 0, .ref a1, .ref a2, .ref a3, .ref a4, .int 0, .ref a5, .ref a6, .ref a7, .ref a8, .int 0, .int 0, .int 0, .int 0, .ref a9, .ref a10, .ref a11, .ref a12, .ref a13]))] := hD
  refine W.eq (g2 := F0 m 25 ls [.int 0]) rfl ?_
  refine lv_if_eq (tgt := 55) hx hb dX4_addConstraint_25 (by decide) (fun _ => ?_) (fun h9 => absurd (by decide) h9)
  refine lv_aload_n hx hb dX4_addConstraint_55 rfl (lv_at hl 0 rfl) ?_
  refine lv_iconst (v := 2) hx hb dX4_addConstraint_56 (by decide) ?_
  refine xc_V (b := a0) (wc := [(a0, .inr (4, [.int 0, .int 0, .ref a1, .ref a2, .ref a3, .ref a4, .int 0, .ref a5, .ref a6, .ref a7, .ref a8, .int 0, .int 0, .int 0, .int 0, .ref a9, .ref a10, .ref a11, .ref a12, .ref a13]))]) (As := [.int 2]) (rest := []) (wr := []) ⟨hx, hb, hml, hown, hts⟩ (kX4_fail_1 l hfl dC dI cI cZ cJ cD a0 a1 a2 a3 a4 a5 a6 a7 a8 a9 a10 a11 a12 a13 _) q756 okX4_fail hP hD hK hE hS hA [0] [] rfl rfl (by decide) (by decide) (by decide) (ci := 4) rfl 0 rfl rfl rfl hl.1 rfl (Nat.le_of_ble_eq_true rfl) ⟨rfl, rfl⟩ ⟨Nat.le_of_ble_eq_true rfl, Nat.le_of_ble_eq_true rfl⟩ ⟨Nat.le_of_ble_eq_true rfl, Nat.le_of_ble_eq_true rfl⟩ dX4_addConstraint_57 (fun H locs hP hD hS => ?_)
  have hP : va_P (dC, dI) vwCl [(a0, .inr (4, [.int 2, .int 0, .ref a1, .ref a2, .ref a3, .ref a4, .int 0, .ref a5, .ref a6, .ref a7, .ref a8, .int 0, .int 0, .int 0, .int 0, .ref a9, .ref a10, .ref a11, .ref a12, .ref a13]))] H := hP
  have hD : va_D A [(a0, .inr (4, [.int 2, .int 0, .ref a1, .ref a2, .ref a3, .ref a4, .int 0, .ref a5, .ref a6, .ref a7, .ref a8, .int 0, .int 0, .int 0, .int 0, .ref a9, .ref a10, .ref a11, .ref a12, .ref a13]))] := hD
  refine W.eq (g2 := F0 m 60 ls [.int 0]) rfl ?_
  exact xr_i hx hb hr hlocks hP hD hS [0] rfl (by decide) (Nat.le_of_ble_eq_true rfl) (Nat.le_of_ble_eq_true rfl) dX4_addConstraint_60
set_option maxHeartbeats 4000000 in
set_option maxRecDepth 100000 in
theorem kX4_thrown_2 (l : Launch) (hfl : l.stackTraces = false) (dC : Nat → ClassId) (dI : Nat → Nat → Nat) (cI cZ cJ cD : ClassId) (a0 a1 a2 a3 a4 a5 a6 a7 a8 a9 a10 a11 a12 a13 : Nat) (sz : Nat) : Met l yX4_thrown (ws_ yX4_thrown cX4_thrown 1 (some .int)) (rm_ 1 0 0) (PC (dC, dI) (tyL cI cZ cJ cD) [(a0, .inr (4, [.int 2, .int 0, .ref a1, .ref a2, .ref a3, .ref a4, .int 0, .ref a5, .ref a6, .ref a7, .ref a8, .int 0, .int 0, .int 0, .int 0, .ref a9, .ref a10, .ref a11, .ref a12, .ref a13]))] sz [.ref a0]) (QR (dC, dI) [(a0, .inr (4, [.int 2, .int 0, .ref a1, .ref a2, .ref a3, .ref a4, .int 0, .ref a5, .ref a6, .ref a7, .ref a8, .int 0, .int 0, .int 0, .int 0, .ref a9, .ref a10, .ref a11, .ref a12, .ref a13]))] (some (.int 2)) (va_A [(a0, .inr (4, [.int 2, .int 0, .ref a1, .ref a2, .ref a3, .ref a4, .int 0, .ref a5, .ref a6, .ref a7, .ref a8, .int 0, .int 0, .int 0, .int 0, .ref a9, .ref a10, .ref a11, .ref a12, .ref a13]))] sz)) 0 0 (va_A [(a0, .inr (4, [.int 2, .int 0, .ref a1, .ref a2, .ref a3, .ref a4, .int 0, .ref a5, .ref a6, .ref a7, .ref a8, .int 0, .int 0, .int 0, .int 0, .ref a9, .ref a10, .ref a11, .ref a12, .ref a13]))] sz) := by
  refine xm_of (QQ := QR (dC, dI) [(a0, .inr (4, [.int 2, .int 0, .ref a1, .ref a2, .ref a3, .ref a4, .int 0, .ref a5, .ref a6, .ref a7, .ref a8, .int 0, .int 0, .int 0, .int 0, .ref a9, .ref a10, .ref a11, .ref a12, .ref a13]))] (some (.int 2))) (by decide +kernel) (Nat.le_of_ble_eq_true rfl) ?_
  intro p e s m below meth c A ls hx hb hr hml hown hts hlocks hin hK hP hD hE hA hS hl
  have hown : s.vm.findClass RX4 = some m.cls := hown
  have hl : lv_has ls 1 [(0, .ref a0)] := hl
  have hP : va_P (dC, dI) vwCl [(a0, .inr (4, [.int 2, .int 0, .ref a1, .ref a2, .ref a3, .ref a4, .int 0, .ref a5, .ref a6, .ref a7, .ref a8, .int 0, .int 0, .int 0, .int 0, .ref a9, .ref a10, .ref a11, .ref a12, .ref a13]))] s.heap := hP
  refine lv_aload_n hx hb dX4_thrown_0 rfl (lv_at hl 0 rfl) ?_
  refine va_get (D := (dC, dI)) (ci := 4) (v := .int 2) (C := RX4) (T := TX4) (N := 20) hx hb hts inX4 hown hK hP 0 rfl rfl 0 (by decide) (hts _ q687) (fun _ h9 => h9) rfl dX4_thrown_1 ?_
  exact xr_i hx hb hr hlocks hP hD hS [0] rfl (by decide) (Nat.le_of_ble_eq_true rfl) (Nat.le_of_ble_eq_true rfl) dX4_thrown_4
set_option maxHeartbeats 4000000 in
set_option maxRecDepth 100000 in
theorem kX3_requireVariable_1 (l : Launch) (hfl : l.stackTraces = false) (dC : Nat → ClassId) (dI : Nat → Nat → Nat) (cI cZ cJ cD : ClassId) (a0 a1 a2 a3 a4 a5 a6 a7 a8 a9 a10 a11 a12 a13 a14 : Nat) (x0 : Int32) (sz : Nat) (h0 : ¬ x0 < 0) : vx_Met l yX3_requireVariable (ws_ yX3_requireVariable cX3_requireVariable 2 none) (rm_ 1 1 6) (PC (dC, dI) (tyL cI cZ cJ cD) [(a0, .inr (3, [.ref a1, .ref a2, .ref a3, .int 0])), (a1, .inr (1, [.int 0, .ref a4, .ref a5, .ref a6, .ref a7, .ref a8, .ref a9, .ref a10, .int 0, .ref a11, .ref a12, .ref a13, .ref a14]))] sz [.ref a0, .int x0]) QN (XR nIOB (va_A [(a0, .inr (3, [.ref a1, .ref a2, .ref a3, .int 0])), (a1, .inr (1, [.int 0, .ref a4, .ref a5, .ref a6, .ref a7, .ref a8, .ref a9, .ref a10, .int 0, .ref a11, .ref a12, .ref a13, .ref a14]))] sz)) 1 6 (va_A [(a0, .inr (3, [.ref a1, .ref a2, .ref a3, .int 0])), (a1, .inr (1, [.int 0, .ref a4, .ref a5, .ref a6, .ref a7, .ref a8, .ref a9, .ref a10, .int 0, .ref a11, .ref a12, .ref a13, .ref a14]))] sz) := by
  refine xm_x (cls := nIOB) (by decide +kernel) (Nat.le_of_ble_eq_true rfl) ?_
  intro p e s m below meth c A ls hx hb hr hml hown hts hlocks hno hK hP hD hE hA hS hl
  have hown : s.vm.findClass RX3 = some m.cls := hown
  have hl : lv_has ls 2 [(0, .ref a0), (1, .int x0)] := hl
  have hP : va_P (dC, dI) vwCl [(a0, .inr (3, [.ref a1, .ref a2, .ref a3, .int 0])), (a1, .inr (1, [.int 0, .ref a4, .ref a5, .ref a6, .ref a7, .ref a8, .ref a9, .ref a10, .int 0, .ref a11, .ref a12, .ref a13, .ref a14]))] s.heap := hP
  refine lv_iload_n hx hb dX3_requireVariable_0 rfl (lv_at hl 1 rfl) ?_
  refine lv_if_lt (tgt := 15) hx hb dX3_requireVariable_1 (by decide) (fun h9 => absurd h9 h0) (fun _ => ?_)
  refine lv_iload_n hx hb dX3_requireVariable_4 rfl (lv_at hl 1 rfl) ?_
  refine lv_aload_n hx hb dX3_requireVariable_5 rfl (lv_at hl 0 rfl) ?_
  refine va_get (D := (dC, dI)) (ci := 3) (v := .ref a1) (C := RX3) (T := TX3) (N := 4) hx hb hts inX3 hown hK hP 0 rfl rfl 0 (by decide) (hts _ q164) (fun _ h9 => h9) rfl dX3_requireVariable_6 ?_
  refine va_get (D := (dC, dI)) (ci := 1) (v := .int 0) (C := RX1) (T := TX1) (N := 13) hx hb hts inX1 hown hK hP 1 rfl rfl 0 (by decide) (hts _ q31) (fun _ h9 => h9) rfl dX3_requireVariable_9 ?_
  refine lv_icmp_lt (tgt := 25) hx hb dX3_requireVariable_12 (by decide) (fun h9 => absurd h9 h0) (fun _ => ?_)
  exact xx_throw (cls := nIOB) hx hb hfl hown hts tok_IOB q499 q11 hE.2.2.cIOB (hE.2.2.st.2.2.2.2.1) hE hS (hl.1.trans hml.symm) hno hlocks dX3_requireVariable_15 dX3_requireVariable_18 dX3_requireVariable_19 dX3_requireVariable_21 dX3_requireVariable_24 (Nat.le_of_ble_eq_true rfl) (Nat.le_of_ble_eq_true rfl) (Nat.le_of_ble_eq_true rfl) (Nat.le_of_ble_eq_true rfl) (Nat.le_of_ble_eq_true rfl) (Nat.le_of_ble_eq_true rfl)
set_option maxHeartbeats 4000000 in
set_option maxRecDepth 100000 in
theorem kX3_addConstraint_3 (l : Launch) (hfl : l.stackTraces = false) (dC : Nat → ClassId) (dI : Nat → Nat → Nat) (cI cZ cJ cD : ClassId) (a0 a1 a2 a3 a4 a5 a6 a7 a8 a9 a10 a11 a12 a13 a14 : Nat) (x0 x1 x2 x3 : Int32) (sz : Nat) (h0 : ¬ x0 < 0) (h1 : x0 ≤ 5) (h2 : x0 = 4) (h3 : ¬ x0 = 3) (h4 : ¬ x1 < 0) : vx_Met l yX3_addConstraint (ws_ yX3_addConstraint cX3_addConstraint 7 (some .int)) (rm_ 2 1 6) (PC (dC, dI) (tyL cI cZ cJ cD) [(a0, .inr (3, [.ref a1, .ref a2, .ref a3, .int 0])), (a1, .inr (1, [.int 0, .ref a4, .ref a5, .ref a6, .ref a7, .ref a8, .ref a9, .ref a10, .int 0, .ref a11, .ref a12, .ref a13, .ref a14]))] sz [.ref a0, .int x0, .int x1, .int x2, .int x3]) QN (XR nIOB (va_A [(a0, .inr (3, [.ref a1, .ref a2, .ref a3, .int 0])), (a1, .inr (1, [.int 0, .ref a4, .ref a5, .ref a6, .ref a7, .ref a8, .ref a9, .ref a10, .int 0, .ref a11, .ref a12, .ref a13, .ref a14]))] sz)) 1 6 (va_A [(a0, .inr (3, [.ref a1, .ref a2, .ref a3, .int 0])), (a1, .inr (1, [.int 0, .ref a4, .ref a5, .ref a6, .ref a7, .ref a8, .ref a9, .ref a10, .int 0, .ref a11, .ref a12, .ref a13, .ref a14]))] sz) := by
  refine xm_x (cls := nIOB) (by decide +kernel) (Nat.le_of_ble_eq_true rfl) ?_
  intro p e s m below meth c A ls hx hb hr hml hown hts hlocks hno hK hP hD hE hA hS hl
  have hown : s.vm.findClass RX3 = some m.cls := hown
  have hl : lv_has ls 7 [(0, .ref a0), (1, .int x0), (2, .int x1), (3, .int x2), (4, .int x3)] := hl
  have hP : va_P (dC, dI) vwCl [(a0, .inr (3, [.ref a1, .ref a2, .ref a3, .int 0])), (a1, .inr (1, [.int 0, .ref a4, .ref a5, .ref a6, .ref a7, .ref a8, .ref a9, .ref a10, .int 0, .ref a11, .ref a12, .ref a13, .ref a14]))] s.heap := hP
  refine lv_iload_n hx hb dX3_addConstraint_0 rfl (lv_at hl 1 rfl) ?_
  refine lv_if_lt (tgt := 9) hx hb dX3_addConstraint_1 (by decide) (fun h9 => absurd h9 h0) (fun _ => ?_)
  refine lv_iload_n hx hb dX3_addConstraint_4 rfl (lv_at hl 1 rfl) ?_
  refine lv_iconst (v := 5) hx hb dX3_addConstraint_5 (by decide) ?_
  refine lv_icmp_le (tgt := 19) hx hb dX3_addConstraint_6 (by decide) (fun _ => ?_) (fun h9 => absurd h1 h9)
  refine lv_iload_n hx hb dX3_addConstraint_19 rfl (lv_at hl 1 rfl) ?_
  refine lv_iconst (v := 4) hx hb dX3_addConstraint_20 (by decide) ?_
  refine lv_icmp_ne (tgt := 28) hx hb dX3_addConstraint_21 (by decide) (fun h9 => absurd h2 h9) (fun _ => ?_)
  refine lv_iload_n hx hb dX3_addConstraint_24 rfl (lv_at hl 2 rfl) ?_
  refine lv_goto (tgt := 29) hx hb dX3_addConstraint_25 (by decide) ?_
  refine lv_istore (lv' := [(5, .int x1), (0, .ref a0), (1, .int x0), (2, .int x1), (3, .int x2), (4, .int x3)]) hx hb dX3_addConstraint_29 hl (by decide) rfl (fun ls hl => ?_)
  refine lv_iload_n hx hb dX3_addConstraint_31 rfl (lv_at hl 2 rfl) ?_
  refine lv_iconst (v := 3) hx hb dX3_addConstraint_32 (by decide) ?_
  refine lv_icmp_ne (tgt := 41) hx hb dX3_addConstraint_33 (by decide) (fun _ => ?_) (fun h9 => absurd h9 h3)
  refine lv_iload_n hx hb dX3_addConstraint_41 rfl (lv_at hl 3 rfl) ?_
  refine lv_istore (lv' := [(6, .int x1), (5, .int x1), (0, .ref a0), (1, .int x0), (2, .int x1), (3, .int x2), (4, .int x3)]) hx hb dX3_addConstraint_42 hl (by decide) rfl (fun ls hl => ?_)
  refine lv_aload_n hx hb dX3_addConstraint_44 rfl (lv_at hl 2 rfl) ?_
  refine lv_iload_n hx hb dX3_addConstraint_45 rfl (lv_at hl 4 rfl) ?_
  refine xx_V (b := a0) (wc := [(a0, .inr (3, [.ref a1, .ref a2, .ref a3, .int 0])), (a1, .inr (1, [.int 0, .ref a4, .ref a5, .ref a6, .ref a7, .ref a8, .ref a9, .ref a10, .int 0, .ref a11, .ref a12, .ref a13, .ref a14]))]) (As := [.int x1]) (rest := []) (wr := []) ⟨hx, hb, hml, hown, hts⟩ (kX3_requireVariable_1 l hfl dC dI cI cZ cJ cD a0 a1 a2 a3 a4 a5 a6 a7 a8 a9 a10 a11 a12 a13 a14 x1 _ h4) q495 okX3_requireVariable hP hD hK hE hS hA [0, 1] [] rfl rfl (by decide) (by decide) (by decide) (ci := 3) rfl 0 rfl rfl rfl hl.1 rfl (Nat.le_of_ble_eq_true rfl) ⟨rfl, rfl⟩ ⟨Nat.le_of_ble_eq_true rfl, Nat.le_of_ble_eq_true rfl⟩ ⟨Nat.le_of_ble_eq_true rfl, Nat.le_of_ble_eq_true rfl⟩ dX3_addConstraint_46 (fun q9 ce H locs h1 h2 h3 hP hD hS => ?_)
  exact xx_out hno hlocks h1 h2 h3 hS (Nat.le_of_ble_eq_true rfl) (Nat.le_of_ble_eq_true rfl)
set_option maxHeartbeats 4000000 in
set_option maxRecDepth 100000 in
theorem kL_addConstraint_3 (l : Launch) (hfl : l.stackTraces = false) (dC : Nat → ClassId) (dI : Nat → Nat → Nat) (cI cZ cJ cD : ClassId) (a0 a1 a2 a3 a4 a5 a6 a7 a8 a9 a10 a11 a12 a13 a14 a15 : Nat) (x0 x1 x2 x3 : Int32) (sz : Nat) (h0 : ¬ x0 < 0) (h1 : x0 ≤ 5) (h2 : x0 = 4) (h3 : ¬ x0 = 3) (h4 : ¬ x1 < 0) : Met l yL_addConstraint (wh_ yL_addConstraint cL_addConstraint 7 (some .int) [(0, 14, 17, 13), (0, 14, 21, 21), (0, 14, 25, 15)]) (rm_ 3 1 6) (PC (dC, dI) (tyL cI cZ cJ cD) [(a0, .inr (3, [.ref a2, .ref a3, .ref a4, .int 0])), (a2, .inr (1, [.int 0, .ref a5, .ref a6, .ref a7, .ref a8, .ref a9, .ref a10, .ref a11, .int 0, .ref a12, .ref a13, .ref a14, .ref a15]))] sz [.ref a0, .int x0, .int x1, .int x2, .int x3, .ref a1]) (QR (dC, dI) [] (some (.int 2)) (va_A [(a0, .inr (3, [.ref a2, .ref a3, .ref a4, .int 0])), (a2, .inr (1, [.int 0, .ref a5, .ref a6, .ref a7, .ref a8, .ref a9, .ref a10, .ref a11, .int 0, .ref a12, .ref a13, .ref a14, .ref a15]))] sz)) 1 6 (va_A [(a0, .inr (3, [.ref a2, .ref a3, .ref a4, .int 0])), (a2, .inr (1, [.int 0, .ref a5, .ref a6, .ref a7, .ref a8, .ref a9, .ref a10, .ref a11, .int 0, .ref a12, .ref a13, .ref a14, .ref a15]))] sz) := by
  refine xm_h (QQ := QR (dC, dI) [] (some (.int 2))) (by decide +kernel) (Nat.le_of_ble_eq_true rfl) ?_
  intro p e s m below meth c A ls hx hb hr hml hown hts hlocks htab hK hP hD hE hA hS hl
  have hown : s.vm.findClass RL = some m.cls := hown
  have hl : lv_has ls 7 [(0, .ref a0), (1, .int x0), (2, .int x1), (3, .int x2), (4, .int x3), (5, .ref a1)] := hl
  have hP : va_P (dC, dI) vwCl [(a0, .inr (3, [.ref a2, .ref a3, .ref a4, .int 0])), (a2, .inr (1, [.int 0, .ref a5, .ref a6, .ref a7, .ref a8, .ref a9, .ref a10, .ref a11, .int 0, .ref a12, .ref a13, .ref a14, .ref a15]))] s.heap := hP
  refine lv_aload hx hb dL_addConstraint_0 (lv_at hl 5 rfl) ?_
  refine lv_iconst (v := 0) hx hb dL_addConstraint_2 (by decide) ?_
  refine lv_aload_n hx hb dL_addConstraint_3 rfl (lv_at hl 0 rfl) ?_
  refine lv_iload_n hx hb dL_addConstraint_4 rfl (lv_at hl 1 rfl) ?_
  refine lv_iload_n hx hb dL_addConstraint_5 rfl (lv_at hl 2 rfl) ?_
  refine lv_iload_n hx hb dL_addConstraint_6 rfl (lv_at hl 3 rfl) ?_
  refine lv_iload hx hb dL_addConstraint_7 (lv_at hl 4 rfl) ?_
  refine xx_V (b := a0) (wc := [(a0, .inr (3, [.ref a2, .ref a3, .ref a4, .int 0])), (a2, .inr (1, [.int 0, .ref a5, .ref a6, .ref a7, .ref a8, .ref a9, .ref a10, .ref a11, .int 0, .ref a12, .ref a13, .ref a14, .ref a15]))]) (As := [.int x0, .int x1, .int x2, .int x3]) (rest := [.int 0, .ref a1]) (wr := []) ⟨hx, hb, hml, hown, hts⟩ (kX3_addConstraint_3 l hfl dC dI cI cZ cJ cD a0 a2 a3 a4 a5 a6 a7 a8 a9 a10 a11 a12 a13 a14 a15 x0 x1 x2 x3 _ h0 h1 h2 h3 h4) q490 okX3_addConstraint hP hD hK hE hS hA [0, 1] [] rfl rfl (by decide) (by decide) (by decide) (ci := 3) rfl 0 rfl rfl rfl hl.1 rfl (Nat.le_of_ble_eq_true rfl) ⟨rfl, rfl⟩ ⟨Nat.le_of_ble_eq_true rfl, Nat.le_of_ble_eq_true rfl⟩ ⟨Nat.le_of_ble_eq_true rfl, Nat.le_of_ble_eq_true rfl⟩ dL_addConstraint_9 (fun q9 ce H locs h1 h2 h3 hP hD hS => ?_)
  refine vx_catch (own := RL) (name := nIOB) (E := nIOB) hown [⟨0, 14, 17, 13⟩] ⟨0, 14, 21, 21⟩ [⟨0, 14, 25, 15⟩] htab (fun z hz => by
      simp only [List.mem_cons, List.not_mem_nil, or_false] at hz
      subst hz
      exact Or.inr ⟨by decide, _, hts _ q391, hE.2.2.nc.2.2.2.2.1⟩) (by decide) (by decide) (hts _ q489) (hE.2.2.cIOB.use rfl) h1 h2 h3 ?_
  refine W.eq (g2 := F0 m 21 ls [.ref q9]) rfl ?_
  refine lv_astore (lv' := [(6, .ref q9), (0, .ref a0), (1, .int x0), (2, .int x1), (3, .int x2), (4, .int x3), (5, .ref a1)]) hx hb dL_addConstraint_21 hl (by decide) rfl (fun ls hl => ?_)
  refine lv_iconst (v := 2) hx hb dL_addConstraint_23 (by decide) ?_
  exact xr_i hx hb hr hlocks hP hD hS [] rfl (by decide) (Nat.le_of_ble_eq_true rfl) (Nat.le_of_ble_eq_true rfl) dL_addConstraint_24
set_option maxHeartbeats 4000000 in
set_option maxRecDepth 100000 in
theorem kX4_isVariable_1 (l : Launch) (hfl : l.stackTraces = false) (dC : Nat → ClassId) (dI : Nat → Nat → Nat) (cI cZ cJ cD : ClassId) (a0 a1 a2 a3 a4 a5 a6 a7 a8 a9 a10 a11 a12 a13 : Nat) (x0 : Int32) (sz : Nat) (h0 : ¬ x0 < 0) : Met l yX4_isVariable (ws_ yX4_isVariable cX4_isVariable 2 (some .boolean)) (rm_ 1 0 0) (PC (dC, dI) (tyL cI cZ cJ cD) [(a0, .inr (4, [.int 0, .int 0, .ref a1, .ref a2, .ref a3, .ref a4, .int 0, .ref a5, .ref a6, .ref a7, .ref a8, .int 0, .int 0, .int 0, .int 0, .ref a9, .ref a10, .ref a11, .ref a12, .ref a13]))] sz [.ref a0, .int x0]) (QR (dC, dI) [(a0, .inr (4, [.int 0, .int 0, .ref a1, .ref a2, .ref a3, .ref a4, .int 0, .ref a5, .ref a6, .ref a7, .ref a8, .int 0, .int 0, .int 0, .int 0, .ref a9, .ref a10, .ref a11, .ref a12, .ref a13]))] (some (.int 0)) (va_A [(a0, .inr (4, [.int 0, .int 0, .ref a1, .ref a2, .ref a3, .ref a4, .int 0, .ref a5, .ref a6, .ref a7, .ref a8, .int 0, .int 0, .int 0, .int 0, .ref a9, .ref a10, .ref a11, .ref a12, .ref a13]))] sz)) 0 0 (va_A [(a0, .inr (4, [.int 0, .int 0, .ref a1, .ref a2, .ref a3, .ref a4, .int 0, .ref a5, .ref a6, .ref a7, .ref a8, .int 0, .int 0, .int 0, .int 0, .ref a9, .ref a10, .ref a11, .ref a12, .ref a13]))] sz) := by
  refine xm_of (QQ := QR (dC, dI) [(a0, .inr (4, [.int 0, .int 0, .ref a1, .ref a2, .ref a3, .ref a4, .int 0, .ref a5, .ref a6, .ref a7, .ref a8, .int 0, .int 0, .int 0, .int 0, .ref a9, .ref a10, .ref a11, .ref a12, .ref a13]))] (some (.int 0))) (by decide +kernel) (Nat.le_of_ble_eq_true rfl) ?_
  intro p e s m below meth c A ls hx hb hr hml hown hts hlocks hin hK hP hD hE hA hS hl
  have hown : s.vm.findClass RX4 = some m.cls := hown
  have hl : lv_has ls 2 [(0, .ref a0), (1, .int x0)] := hl
  have hP : va_P (dC, dI) vwCl [(a0, .inr (4, [.int 0, .int 0, .ref a1, .ref a2, .ref a3, .ref a4, .int 0, .ref a5, .ref a6, .ref a7, .ref a8, .int 0, .int 0, .int 0, .int 0, .ref a9, .ref a10, .ref a11, .ref a12, .ref a13]))] s.heap := hP
  refine lv_iload_n hx hb dX4_isVariable_0 rfl (lv_at hl 1 rfl) ?_
  refine lv_if_lt (tgt := 16) hx hb dX4_isVariable_1 (by decide) (fun h9 => absurd h9 h0) (fun _ => ?_)
  refine lv_iload_n hx hb dX4_isVariable_4 rfl (lv_at hl 1 rfl) ?_
  refine lv_aload_n hx hb dX4_isVariable_5 rfl (lv_at hl 0 rfl) ?_
  refine va_get (D := (dC, dI)) (ci := 4) (v := .int 0) (C := RX4) (T := TX4) (N := 20) hx hb hts inX4 hown hK hP 0 rfl rfl 1 (by decide) (hts _ q688) (fun _ h9 => h9) rfl dX4_isVariable_6 ?_
  refine lv_icmp_ge (tgt := 16) hx hb dX4_isVariable_9 (by decide) (fun _ => ?_) (fun h9 => absurd (i_le h0) h9)
  refine lv_iconst (v := 0) hx hb dX4_isVariable_16 (by decide) ?_
  exact xr_z hx hb hr hlocks hP hD hS [0] rfl (by decide) rfl (Nat.le_of_ble_eq_true rfl) (Nat.le_of_ble_eq_true rfl) dX4_isVariable_17
set_option maxHeartbeats 4000000 in
set_option maxRecDepth 100000 in
theorem kX4_addConstraint_3 (l : Launch) (hfl : l.stackTraces = false) (dC : Nat → ClassId) (dI : Nat → Nat → Nat) (cI cZ cJ cD : ClassId) (a0 a1 a2 a3 a4 a5 a6 a7 a8 a9 a10 a11 a12 a13 : Nat) (x0 x1 x2 x3 : Int32) (sz : Nat) (h0 : ¬ x0 < 0) (h1 : x0 ≤ 5) (h2 : ¬ x1 < 0) : Met l yX4_addConstraint (ws_ yX4_addConstraint cX4_addConstraint 5 (some .int)) (rm_ 2 0 0) (PC (dC, dI) (tyL cI cZ cJ cD) [(a0, .inr (4, [.int 0, .int 0, .ref a1, .ref a2, .ref a3, .ref a4, .int 0, .ref a5, .ref a6, .ref a7, .ref a8, .int 0, .int 0, .int 0, .int 0, .ref a9, .ref a10, .ref a11, .ref a12, .ref a13]))] sz [.ref a0, .int x0, .int x1, .int x2, .int x3]) (QR (dC, dI) [(a0, .inr (4, [.int 2, .int 0, .ref a1, .ref a2, .ref a3, .ref a4, .int 0, .ref a5, .ref a6, .ref a7, .ref a8, .int 0, .int 0, .int 0, .int 0, .ref a9, .ref a10, .ref a11, .ref a12, .ref a13]))] (some (.int 0)) (va_A [(a0, .inr (4, [.int 0, .int 0, .ref a1, .ref a2, .ref a3, .ref a4, .int 0, .ref a5, .ref a6, .ref a7, .ref a8, .int 0, .int 0, .int 0, .int 0, .ref a9, .ref a10, .ref a11, .ref a12, .ref a13]))] sz)) 0 0 (va_A [(a0, .inr (4, [.int 0, .int 0, .ref a1, .ref a2, .ref a3, .ref a4, .int 0, .ref a5, .ref a6, .ref a7, .ref a8, .int 0, .int 0, .int 0, .int 0, .ref a9, .ref a10, .ref a11, .ref a12, .ref a13]))] sz) := by
  refine xm_of (QQ := QR (dC, dI) [(a0, .inr (4, [.int 2, .int 0, .ref a1, .ref a2, .ref a3, .ref a4, .int 0, .ref a5, .ref a6, .ref a7, .ref a8, .int 0, .int 0, .int 0, .int 0, .ref a9, .ref a10, .ref a11, .ref a12, .ref a13]))] (some (.int 0))) (by decide +kernel) (Nat.le_of_ble_eq_true rfl) ?_
  intro p e s m below meth c A ls hx hb hr hml hown hts hlocks hin hK hP hD hE hA hS hl
  have hown : s.vm.findClass RX4 = some m.cls := hown
  have hl : lv_has ls 5 [(0, .ref a0), (1, .int x0), (2, .int x1), (3, .int x2), (4, .int x3)] := hl
  have hP : va_P (dC, dI) vwCl [(a0, .inr (4, [.int 0, .int 0, .ref a1, .ref a2, .ref a3, .ref a4, .int 0, .ref a5, .ref a6, .ref a7, .ref a8, .int 0, .int 0, .int 0, .int 0, .ref a9, .ref a10, .ref a11, .ref a12, .ref a13]))] s.heap := hP
  refine lv_aload_n hx hb dX4_addConstraint_0 rfl (lv_at hl 0 rfl) ?_
  refine lv_iconst (v := 0) hx hb dX4_addConstraint_1 (by decide) ?_
  refine va_put (D := (dC, dI)) (ci := 4) (v := .int 0) (ty := .int) (C := RX4) (T := TX4) (N := 20) hx hb hts inX4 tyX4 tyX4_ok nmX4 hown hK hP hD hS 0 rfl rfl 0 (by decide) (hts _ q687) (fun _ h9 => h9) rfl (by decide +kernel) rfl rfl (Nat.le_of_ble_eq_true rfl) dX4_addConstraint_2 (fun H locs hP hD hS => ?_)
  have hP : va_P (dC, dI) vwCl [(a0, .inr (4, [.int 0, .int 0, .ref a1, .ref a2, .ref a3, .ref a4, .int 0, .ref a5, .ref a6, .ref a7, .ref a8, .int 0, .int 0, .int 0, .int 0, .ref a9, .ref a10, .ref a11, .ref a12, .ref a13]))] H := hP
  have hD : va_D A [(a0, .inr (4, [.int 0, .int 0, .ref a1, .ref a2, .ref a3, .ref a4, .int 0, .ref a5, .ref a6, .ref a7, .ref a8, .int 0, .int 0, .int 0, .int 0, .ref a9, .ref a10, .ref a11, .ref a12, .ref a13]))] := hD
  refine lv_iload_n hx hb dX4_addConstraint_5 rfl (lv_at hl 1 rfl) ?_
  refine lv_if_lt (tgt := 14) hx hb dX4_addConstraint_6 (by decide) (fun h9 => absurd h9 h0) (fun _ => ?_)
  refine lv_iload_n hx hb dX4_addConstraint_9 rfl (lv_at hl 1 rfl) ?_
  refine lv_iconst (v := 5) hx hb dX4_addConstraint_10 (by decide) ?_
  refine lv_icmp_le (tgt := 20) hx hb dX4_addConstraint_11 (by decide) (fun _ => ?_) (fun h9 => absurd h1 h9)
  refine lv_aload_n hx hb dX4_addConstraint_20 rfl (lv_at hl 0 rfl) ?_
  refine lv_iload_n hx hb dX4_addConstraint_21 rfl (lv_at hl 2 rfl) ?_
  refine xc_V (b := a0) (wc := [(a0, .inr (4, [.int 0, .int 0, .ref a1, .ref a2, .ref a3, .ref a4, .int 0, .ref a5, .ref a6, .ref a7, .ref a8, .int 0, .int 0, .int 0, .int 0, .ref a9, .ref a10, .ref a11, .ref a12, .ref a13]))]) (As := [.int x1]) (rest := []) (wr := []) ⟨hx, hb, hml, hown, hts⟩ (kX4_isVariable_1 l hfl dC dI cI cZ cJ cD a0 a1 a2 a3 a4 a5 a6 a7 a8 a9 a10 a11 a12 a13 x1 _ h2) q764 okX4_isVariable hP hD hK hE hS hA [0] [] rfl rfl (by decide) (by decide) (by decide) (ci := 4) rfl 0 rfl rfl rfl hl.1 rfl (Nat.le_of_ble_eq_true rfl) ⟨rfl, rfl⟩ ⟨Nat.le_of_ble_eq_true rfl, Nat.le_of_ble_eq_true rfl⟩ ⟨Nat.le_of_ble_eq_true rfl, Nat.le_of_ble_eq_true rfl⟩ dX4_addConstraint_22 (fun H locs hP hD hS => ?_)
  have hP : va_P (dC, dI) vwCl [(a0, .inr (4, [.int 0, .int 0, .ref a1, .ref a2, .ref a3, .ref a4, .int 0, .ref a5, .ref a6, .ref a7, .ref a8, .int 0, .int 0, .int 0, .int 0, .ref a9, .ref a10, .ref a11, .ref a12, .ref a13]))] H := hP
  have hD : va_D A [(a0, .inr (4, [.int 0, .int 0, .ref a1, .ref a2, .ref a3, .ref a4, .int 0, .ref a5, .ref a6, .ref a7, .ref a8, .int 0, .int 0, .int 0, .int 0, .ref a9, .ref a10, .ref a11, .ref a12, .ref a13]))] := hD
  refine W.eq (g2 := F0 m 25 ls [.int 0]) rfl ?_
  refine lv_if_eq (tgt := 55) hx hb dX4_addConstraint_25 (by decide) (fun _ => ?_) (fun h9 => absurd (by decide) h9)
  refine lv_aload_n hx hb dX4_addConstraint_55 rfl (lv_at hl 0 rfl) ?_
  refine lv_iconst (v := 2) hx hb dX4_addConstraint_56 (by decide) ?_
  refine xc_V (b := a0) (wc := [(a0, .inr (4, [.int 0, .int 0, .ref a1, .ref a2, .ref a3, .ref a4, .int 0, .ref a5, .ref a6, .ref a7, .ref a8, .int 0, .int 0, .int 0, .int 0, .ref a9, .ref a10, .ref a11, .ref a12, .ref a13]))]) (As := [.int 2]) (rest := []) (wr := []) ⟨hx, hb, hml, hown, hts⟩ (kX4_fail_1 l hfl dC dI cI cZ cJ cD a0 a1 a2 a3 a4 a5 a6 a7 a8 a9 a10 a11 a12 a13 _) q756 okX4_fail hP hD hK hE hS hA [0] [] rfl rfl (by decide) (by decide) (by decide) (ci := 4) rfl 0 rfl rfl rfl hl.1 rfl (Nat.le_of_ble_eq_true rfl) ⟨rfl, rfl⟩ ⟨Nat.le_of_ble_eq_true rfl, Nat.le_of_ble_eq_true rfl⟩ ⟨Nat.le_of_ble_eq_true rfl, Nat.le_of_ble_eq_true rfl⟩ dX4_addConstraint_57 (fun H locs hP hD hS => ?_)
  have hP : va_P (dC, dI) vwCl [(a0, .inr (4, [.int 2, .int 0, .ref a1, .ref a2, .ref a3, .ref a4, .int 0, .ref a5, .ref a6, .ref a7, .ref a8, .int 0, .int 0, .int 0, .int 0, .ref a9, .ref a10, .ref a11, .ref a12, .ref a13]))] H := hP
  have hD : va_D A [(a0, .inr (4, [.int 2, .int 0, .ref a1, .ref a2, .ref a3, .ref a4, .int 0, .ref a5, .ref a6, .ref a7, .ref a8, .int 0, .int 0, .int 0, .int 0, .ref a9, .ref a10, .ref a11, .ref a12, .ref a13]))] := hD
  refine W.eq (g2 := F0 m 60 ls [.int 0]) rfl ?_
  exact xr_i hx hb hr hlocks hP hD hS [0] rfl (by decide) (Nat.le_of_ble_eq_true rfl) (Nat.le_of_ble_eq_true rfl) dX4_addConstraint_60
set_option maxHeartbeats 4000000 in
set_option maxRecDepth 100000 in
theorem kX3_addConstraint_4 (l : Launch) (hfl : l.stackTraces = false) (dC : Nat → ClassId) (dI : Nat → Nat → Nat) (cI cZ cJ cD : ClassId) (a0 a1 a2 a3 : Nat) (x0 x1 x2 x3 : Int32) (sz : Nat) (h0 : ¬ x0 < 0) (h1 : x0 ≤ 5) (h2 : ¬ x0 = 4) (h3 : x0 = 3) (h4 : x1 < 0) : vx_Met l yX3_addConstraint (ws_ yX3_addConstraint cX3_addConstraint 7 (some .int)) (rm_ 2 1 6) (PC (dC, dI) (tyL cI cZ cJ cD) [(a0, .inr (3, [.ref a1, .ref a2, .ref a3, .int 0]))] sz [.ref a0, .int x0, .int x1, .int x2, .int x3]) QN (XR nIOB (va_A [(a0, .inr (3, [.ref a1, .ref a2, .ref a3, .int 0]))] sz)) 1 6 (va_A [(a0, .inr (3, [.ref a1, .ref a2, .ref a3, .int 0]))] sz) := by
  refine xm_x (cls := nIOB) (by decide +kernel) (Nat.le_of_ble_eq_true rfl) ?_
  intro p e s m below meth c A ls hx hb hr hml hown hts hlocks hno hK hP hD hE hA hS hl
  have hown : s.vm.findClass RX3 = some m.cls := hown
  have hl : lv_has ls 7 [(0, .ref a0), (1, .int x0), (2, .int x1), (3, .int x2), (4, .int x3)] := hl
  have hP : va_P (dC, dI) vwCl [(a0, .inr (3, [.ref a1, .ref a2, .ref a3, .int 0]))] s.heap := hP
  refine lv_iload_n hx hb dX3_addConstraint_0 rfl (lv_at hl 1 rfl) ?_
  refine lv_if_lt (tgt := 9) hx hb dX3_addConstraint_1 (by decide) (fun h9 => absurd h9 h0) (fun _ => ?_)
  refine lv_iload_n hx hb dX3_addConstraint_4 rfl (lv_at hl 1 rfl) ?_
  refine lv_iconst (v := 5) hx hb dX3_addConstraint_5 (by decide) ?_
  refine lv_icmp_le (tgt := 19) hx hb dX3_addConstraint_6 (by decide) (fun _ => ?_) (fun h9 => absurd h1 h9)
  refine lv_iload_n hx hb dX3_addConstraint_19 rfl (lv_at hl 1 rfl) ?_
  refine lv_iconst (v := 4) hx hb dX3_addConstraint_20 (by decide) ?_
  refine lv_icmp_ne (tgt := 28) hx hb dX3_addConstraint_21 (by decide) (fun _ => ?_) (fun h9 => absurd h9 h2)
  refine lv_iload_n hx hb dX3_addConstraint_28 rfl (lv_at hl 3 rfl) ?_
  refine lv_istore (lv' := [(5, .int x2), (0, .ref a0), (1, .int x0), (2, .int x1), (3, .int x2), (4, .int x3)]) hx hb dX3_addConstraint_29 hl (by decide) rfl (fun ls hl => ?_)
  refine lv_iload_n hx hb dX3_addConstraint_31 rfl (lv_at hl 2 rfl) ?_
  refine lv_iconst (v := 3) hx hb dX3_addConstraint_32 (by decide) ?_
  refine lv_icmp_ne (tgt := 41) hx hb dX3_addConstraint_33 (by decide) (fun h9 => absurd h3 h9) (fun _ => ?_)
  refine lv_iload hx hb dX3_addConstraint_36 (lv_at hl 5 rfl) ?_
  refine lv_goto (tgt := 42) hx hb dX3_addConstraint_38 (by decide) ?_
  refine lv_istore (lv' := [(6, .int x3), (5, .int x2), (0, .ref a0), (1, .int x0), (2, .int x1), (3, .int x2), (4, .int x3)]) hx hb dX3_addConstraint_42 hl (by decide) rfl (fun ls hl => ?_)
  refine lv_aload_n hx hb dX3_addConstraint_44 rfl (lv_at hl 2 rfl) ?_
  refine lv_iload_n hx hb dX3_addConstraint_45 rfl (lv_at hl 4 rfl) ?_
  refine xx_V (b := a0) (wc := []) (As := [.int x1]) (rest := []) (wr := [(a0, .inr (3, [.ref a1, .ref a2, .ref a3, .int 0]))]) ⟨hx, hb, hml, hown, hts⟩ (kX3_requireVariable_0 l hfl dC dI cI cZ cJ cD a0 x1 _ h4) q495 okX3_requireVariable hP hD hK hE hS hA [] [0] rfl rfl (by decide) (by decide) (by decide) (ci := 3) rfl 0 rfl rfl rfl hl.1 rfl (Nat.le_of_ble_eq_true rfl) ⟨rfl, rfl⟩ ⟨Nat.le_of_ble_eq_true rfl, Nat.le_of_ble_eq_true rfl⟩ ⟨Nat.le_of_ble_eq_true rfl, Nat.le_of_ble_eq_true rfl⟩ dX3_addConstraint_46 (fun q9 ce H locs h1 h2 h3 hP hD hS => ?_)
  exact xx_out hno hlocks h1 h2 h3 hS (Nat.le_of_ble_eq_true rfl) (Nat.le_of_ble_eq_true rfl)
set_option maxHeartbeats 4000000 in
set_option maxRecDepth 100000 in
theorem kL_addConstraint_4 (l : Launch) (hfl : l.stackTraces = false) (dC : Nat → ClassId) (dI : Nat → Nat → Nat) (cI cZ cJ cD : ClassId) (a0 a1 a2 a3 a4 : Nat) (x0 x1 x2 x3 : Int32) (sz : Nat) (h0 : ¬ x0 < 0) (h1 : x0 ≤ 5) (h2 : ¬ x0 = 4) (h3 : x0 = 3) (h4 : x1 < 0) : Met l yL_addConstraint (wh_ yL_addConstraint cL_addConstraint 7 (some .int) [(0, 14, 17, 13), (0, 14, 21, 21), (0, 14, 25, 15)]) (rm_ 3 1 6) (PC (dC, dI) (tyL cI cZ cJ cD) [(a0, .inr (3, [.ref a2, .ref a3, .ref a4, .int 0]))] sz [.ref a0, .int x0, .int x1, .int x2, .int x3, .ref a1]) (QR (dC, dI) [] (some (.int 2)) (va_A [(a0, .inr (3, [.ref a2, .ref a3, .ref a4, .int 0]))] sz)) 1 6 (va_A [(a0, .inr (3, [.ref a2, .ref a3, .ref a4, .int 0]))] sz) := by
  refine xm_h (QQ := QR (dC, dI) [] (some (.int 2))) (by decide +kernel) (Nat.le_of_ble_eq_true rfl) ?_
  intro p e s m below meth c A ls hx hb hr hml hown hts hlocks htab hK hP hD hE hA hS hl
  have hown : s.vm.findClass RL = some m.cls := hown
  have hl : lv_has ls 7 [(0, .ref a0), (1, .int x0), (2, .int x1), (3, .int x2), (4, .int x3), (5, .ref a1)] := hl
  have hP : va_P (dC, dI) vwCl [(a0, .inr (3, [.ref a2, .ref a3, .ref a4, .int 0]))] s.heap := hP
  refine lv_aload hx hb dL_addConstraint_0 (lv_at hl 5 rfl) ?_
  refine lv_iconst (v := 0) hx hb dL_addConstraint_2 (by decide) ?_
  refine lv_aload_n hx hb dL_addConstraint_3 rfl (lv_at hl 0 rfl) ?_
  refine lv_iload_n hx hb dL_addConstraint_4 rfl (lv_at hl 1 rfl) ?_
  refine lv_iload_n hx hb dL_addConstraint_5 rfl (lv_at hl 2 rfl) ?_
  refine lv_iload_n hx hb dL_addConstraint_6 rfl (lv_at hl 3 rfl) ?_
  refine lv_iload hx hb dL_addConstraint_7 (lv_at hl 4 rfl) ?_
  refine xx_V (b := a0) (wc := [(a0, .inr (3, [.ref a2, .ref a3, .ref a4, .int 0]))]) (As := [.int x0, .int x1, .int x2, .int x3]) (rest := [.int 0, .ref a1]) (wr := []) ⟨hx, hb, hml, hown, hts⟩ (kX3_addConstraint_4 l hfl dC dI cI cZ cJ cD a0 a2 a3 a4 x0 x1 x2 x3 _ h0 h1 h2 h3 h4) q490 okX3_addConstraint hP hD hK hE hS hA [0] [] rfl rfl (by decide) (by decide) (by decide) (ci := 3) rfl 0 rfl rfl rfl hl.1 rfl (Nat.le_of_ble_eq_true rfl) ⟨rfl, rfl⟩ ⟨Nat.le_of_ble_eq_true rfl, Nat.le_of_ble_eq_true rfl⟩ ⟨Nat.le_of_ble_eq_true rfl, Nat.le_of_ble_eq_true rfl⟩ dL_addConstraint_9 (fun q9 ce H locs h1 h2 h3 hP hD hS => ?_)
  refine vx_catch (own := RL) (name := nIOB) (E := nIOB) hown [⟨0, 14, 17, 13⟩] ⟨0, 14, 21, 21⟩ [⟨0, 14, 25, 15⟩] htab (fun z hz => by
      simp only [List.mem_cons, List.not_mem_nil, or_false] at hz
      subst hz
      exact Or.inr ⟨by decide, _, hts _ q391, hE.2.2.nc.2.2.2.2.1⟩) (by decide) (by decide) (hts _ q489) (hE.2.2.cIOB.use rfl) h1 h2 h3 ?_
  refine W.eq (g2 := F0 m 21 ls [.ref q9]) rfl ?_
  refine lv_astore (lv' := [(6, .ref q9), (0, .ref a0), (1, .int x0), (2, .int x1), (3, .int x2), (4, .int x3), (5, .ref a1)]) hx hb dL_addConstraint_21 hl (by decide) rfl (fun ls hl => ?_)
  refine lv_iconst (v := 2) hx hb dL_addConstraint_23 (by decide) ?_
  exact xr_i hx hb hr hlocks hP hD hS [] rfl (by decide) (Nat.le_of_ble_eq_true rfl) (Nat.le_of_ble_eq_true rfl) dL_addConstraint_24
set_option maxHeartbeats 4000000 in
set_option maxRecDepth 100000 in
theorem kX3_addConstraint_5 (l : Launch) (hfl : l.stackTraces = false) (dC : Nat → ClassId) (dI : Nat → Nat → Nat) (cI cZ cJ cD : ClassId) (a0 a1 a2 a3 a4 a5 a6 a7 a8 a9 a10 a11 a12 a13 a14 : Nat) (x0 x1 x2 x3 : Int32) (sz : Nat) (h0 : ¬ x0 < 0) (h1 : x0 ≤ 5) (h2 : ¬ x0 = 4) (h3 : x0 = 3) (h4 : ¬ x1 < 0) : vx_Met l yX3_addConstraint (ws_ yX3_addConstraint cX3_addConstraint 7 (some .int)) (rm_ 2 1 6) (PC (dC, dI) (tyL cI cZ cJ cD) [(a0, .inr (3, [.ref a1, .ref a2, .ref a3, .int 0])), (a1, .inr (1, [.int 0, .ref a4, .ref a5, .ref a6, .ref a7, .ref a8, .ref a9, .ref a10, .int 0, .ref a11, .ref a12, .ref a13, .ref a14]))] sz [.ref a0, .int x0, .int x1, .int x2, .int x3]) QN (XR nIOB (va_A [(a0, .inr (3, [.ref a1, .ref a2, .ref a3, .int 0])), (a1, .inr (1, [.int 0, .ref a4, .ref a5, .ref a6, .ref a7, .ref a8, .ref a9, .ref a10, .int 0, .ref a11, .ref a12, .ref a13, .ref a14]))] sz)) 1 6 (va_A [(a0, .inr (3, [.ref a1, .ref a2, .ref a3, .int 0])), (a1, .inr (1, [.int 0, .ref a4, .ref a5, .ref a6, .ref a7, .ref a8, .ref a9, .ref a10, .int 0, .ref a11, .ref a12, .ref a13, .ref a14]))] sz) := by
  refine xm_x (cls := nIOB) (by decide +kernel) (Nat.le_of_ble_eq_true rfl) ?_
  intro p e s m below meth c A ls hx hb hr hml hown hts hlocks hno hK hP hD hE hA hS hl
  have hown : s.vm.findClass RX3 = some m.cls := hown
  have hl : lv_has ls 7 [(0, .ref a0), (1, .int x0), (2, .int x1), (3, .int x2), (4, .int x3)] := hl
  have hP : va_P (dC, dI) vwCl [(a0, .inr (3, [.ref a1, .ref a2, .ref a3, .int 0])), (a1, .inr (1, [.int 0, .ref a4, .ref a5, .ref a6, .ref a7, .ref a8, .ref a9, .ref a10, .int 0, .ref a11, .ref a12, .ref a13, .ref a14]))] s.heap := hP
  refine lv_iload_n hx hb dX3_addConstraint_0 rfl (lv_at hl 1 rfl) ?_
  refine lv_if_lt (tgt := 9) hx hb dX3_addConstraint_1 (by decide) (fun h9 => absurd h9 h0) (fun _ => ?_)
  refine lv_iload_n hx hb dX3_addConstraint_4 rfl (lv_at hl 1 rfl) ?_
  refine lv_iconst (v := 5) hx hb dX3_addConstraint_5 (by decide) ?_
  refine lv_icmp_le (tgt := 19) hx hb dX3_addConstraint_6 (by decide) (fun _ => ?_) (fun h9 => absurd h1 h9)
  refine lv_iload_n hx hb dX3_addConstraint_19 rfl (lv_at hl 1 rfl) ?_
  refine lv_iconst (v := 4) hx hb dX3_addConstraint_20 (by decide) ?_
  refine lv_icmp_ne (tgt := 28) hx hb dX3_addConstraint_21 (by decide) (fun _ => ?_) (fun h9 => absurd h9 h2)
  refine lv_iload_n hx hb dX3_addConstraint_28 rfl (lv_at hl 3 rfl) ?_
  refine lv_istore (lv' := [(5, .int x2), (0, .ref a0), (1, .int x0), (2, .int x1), (3, .int x2), (4, .int x3)]) hx hb dX3_addConstraint_29 hl (by decide) rfl (fun ls hl => ?_)
  refine lv_iload_n hx hb dX3_addConstraint_31 rfl (lv_at hl 2 rfl) ?_
  refine lv_iconst (v := 3) hx hb dX3_addConstraint_32 (by decide) ?_
  refine lv_icmp_ne (tgt := 41) hx hb dX3_addConstraint_33 (by decide) (fun h9 => absurd h3 h9) (fun _ => ?_)
  refine lv_iload hx hb dX3_addConstraint_36 (lv_at hl 5 rfl) ?_
  refine lv_goto (tgt := 42) hx hb dX3_addConstraint_38 (by decide) ?_
  refine lv_istore (lv' := [(6, .int x3), (5, .int x2), (0, .ref a0), (1, .int x0), (2, .int x1), (3, .int x2), (4, .int x3)]) hx hb dX3_addConstraint_42 hl (by decide) rfl (fun ls hl => ?_)
  refine lv_aload_n hx hb dX3_addConstraint_44 rfl (lv_at hl 2 rfl) ?_
  refine lv_iload_n hx hb dX3_addConstraint_45 rfl (lv_at hl 4 rfl) ?_
  refine xx_V (b := a0) (wc := [(a0, .inr (3, [.ref a1, .ref a2, .ref a3, .int 0])), (a1, .inr (1, [.int 0, .ref a4, .ref a5, .ref a6, .ref a7, .ref a8, .ref a9, .ref a10, .int 0, .ref a11, .ref a12, .ref a13, .ref a14]))]) (As := [.int x1]) (rest := []) (wr := []) ⟨hx, hb, hml, hown, hts⟩ (kX3_requireVariable_1 l hfl dC dI cI cZ cJ cD a0 a1 a2 a3 a4 a5 a6 a7 a8 a9 a10 a11 a12 a13 a14 x1 _ h4) q495 okX3_requireVariable hP hD hK hE hS hA [0, 1] [] rfl rfl (by decide) (by decide) (by decide) (ci := 3) rfl 0 rfl rfl rfl hl.1 rfl (Nat.le_of_ble_eq_true rfl) ⟨rfl, rfl⟩ ⟨Nat.le_of_ble_eq_true rfl, Nat.le_of_ble_eq_true rfl⟩ ⟨Nat.le_of_ble_eq_true rfl, Nat.le_of_ble_eq_true rfl⟩ dX3_addConstraint_46 (fun q9 ce H locs h1 h2 h3 hP hD hS => ?_)
  exact xx_out hno hlocks h1 h2 h3 hS (Nat.le_of_ble_eq_true rfl) (Nat.le_of_ble_eq_true rfl)
set_option maxHeartbeats 4000000 in
set_option maxRecDepth 100000 in
theorem kL_addConstraint_5 (l : Launch) (hfl : l.stackTraces = false) (dC : Nat → ClassId) (dI : Nat → Nat → Nat) (cI cZ cJ cD : ClassId) (a0 a1 a2 a3 a4 a5 a6 a7 a8 a9 a10 a11 a12 a13 a14 a15 : Nat) (x0 x1 x2 x3 : Int32) (sz : Nat) (h0 : ¬ x0 < 0) (h1 : x0 ≤ 5) (h2 : ¬ x0 = 4) (h3 : x0 = 3) (h4 : ¬ x1 < 0) : Met l yL_addConstraint (wh_ yL_addConstraint cL_addConstraint 7 (some .int) [(0, 14, 17, 13), (0, 14, 21, 21), (0, 14, 25, 15)]) (rm_ 3 1 6) (PC (dC, dI) (tyL cI cZ cJ cD) [(a0, .inr (3, [.ref a2, .ref a3, .ref a4, .int 0])), (a2, .inr (1, [.int 0, .ref a5, .ref a6, .ref a7, .ref a8, .ref a9, .ref a10, .ref a11, .int 0, .ref a12, .ref a13, .ref a14, .ref a15]))] sz [.ref a0, .int x0, .int x1, .int x2, .int x3, .ref a1]) (QR (dC, dI) [] (some (.int 2)) (va_A [(a0, .inr (3, [.ref a2, .ref a3, .ref a4, .int 0])), (a2, .inr (1, [.int 0, .ref a5, .ref a6, .ref a7, .ref a8, .ref a9, .ref a10, .ref a11, .int 0, .ref a12, .ref a13, .ref a14, .ref a15]))] sz)) 1 6 (va_A [(a0, .inr (3, [.ref a2, .ref a3, .ref a4, .int 0])), (a2, .inr (1, [.int 0, .ref a5, .ref a6, .ref a7, .ref a8, .ref a9, .ref a10, .ref a11, .int 0, .ref a12, .ref a13, .ref a14, .ref a15]))] sz) := by
  refine xm_h (QQ := QR (dC, dI) [] (some (.int 2))) (by decide +kernel) (Nat.le_of_ble_eq_true rfl) ?_
  intro p e s m below meth c A ls hx hb hr hml hown hts hlocks htab hK hP hD hE hA hS hl
  have hown : s.vm.findClass RL = some m.cls := hown
  have hl : lv_has ls 7 [(0, .ref a0), (1, .int x0), (2, .int x1), (3, .int x2), (4, .int x3), (5, .ref a1)] := hl
  have hP : va_P (dC, dI) vwCl [(a0, .inr (3, [.ref a2, .ref a3, .ref a4, .int 0])), (a2, .inr (1, [.int 0, .ref a5, .ref a6, .ref a7, .ref a8, .ref a9, .ref a10, .ref a11, .int 0, .ref a12, .ref a13, .ref a14, .ref a15]))] s.heap := hP
  refine lv_aload hx hb dL_addConstraint_0 (lv_at hl 5 rfl) ?_
  refine lv_iconst (v := 0) hx hb dL_addConstraint_2 (by decide) ?_
  refine lv_aload_n hx hb dL_addConstraint_3 rfl (lv_at hl 0 rfl) ?_
  refine lv_iload_n hx hb dL_addConstraint_4 rfl (lv_at hl 1 rfl) ?_
  refine lv_iload_n hx hb dL_addConstraint_5 rfl (lv_at hl 2 rfl) ?_
  refine lv_iload_n hx hb dL_addConstraint_6 rfl (lv_at hl 3 rfl) ?_
  refine lv_iload hx hb dL_addConstraint_7 (lv_at hl 4 rfl) ?_
  refine xx_V (b := a0) (wc := [(a0, .inr (3, [.ref a2, .ref a3, .ref a4, .int 0])), (a2, .inr (1, [.int 0, .ref a5, .ref a6, .ref a7, .ref a8, .ref a9, .ref a10, .ref a11, .int 0, .ref a12, .ref a13, .ref a14, .ref a15]))]) (As := [.int x0, .int x1, .int x2, .int x3]) (rest := [.int 0, .ref a1]) (wr := []) ⟨hx, hb, hml, hown, hts⟩ (kX3_addConstraint_5 l hfl dC dI cI cZ cJ cD a0 a2 a3 a4 a5 a6 a7 a8 a9 a10 a11 a12 a13 a14 a15 x0 x1 x2 x3 _ h0 h1 h2 h3 h4) q490 okX3_addConstraint hP hD hK hE hS hA [0, 1] [] rfl rfl (by decide) (by decide) (by decide) (ci := 3) rfl 0 rfl rfl rfl hl.1 rfl (Nat.le_of_ble_eq_true rfl) ⟨rfl, rfl⟩ ⟨Nat.le_of_ble_eq_true rfl, Nat.le_of_ble_eq_true rfl⟩ ⟨Nat.le_of_ble_eq_true rfl, Nat.le_of_ble_eq_true rfl⟩ dL_addConstraint_9 (fun q9 ce H locs h1 h2 h3 hP hD hS => ?_)
  refine vx_catch (own := RL) (name := nIOB) (E := nIOB) hown [⟨0, 14, 17, 13⟩] ⟨0, 14, 21, 21⟩ [⟨0, 14, 25, 15⟩] htab (fun z hz => by
      simp only [List.mem_cons, List.not_mem_nil, or_false] at hz
      subst hz
      exact Or.inr ⟨by decide, _, hts _ q391, hE.2.2.nc.2.2.2.2.1⟩) (by decide) (by decide) (hts _ q489) (hE.2.2.cIOB.use rfl) h1 h2 h3 ?_
  refine W.eq (g2 := F0 m 21 ls [.ref q9]) rfl ?_
  refine lv_astore (lv' := [(6, .ref q9), (0, .ref a0), (1, .int x0), (2, .int x1), (3, .int x2), (4, .int x3), (5, .ref a1)]) hx hb dL_addConstraint_21 hl (by decide) rfl (fun ls hl => ?_)
  refine lv_iconst (v := 2) hx hb dL_addConstraint_23 (by decide) ?_
  exact xr_i hx hb hr hlocks hP hD hS [] rfl (by decide) (Nat.le_of_ble_eq_true rfl) (Nat.le_of_ble_eq_true rfl) dL_addConstraint_24
set_option maxHeartbeats 4000000 in
set_option maxRecDepth 100000 in
theorem kX3_addConstraint_6 (l : Launch) (hfl : l.stackTraces = false) (dC : Nat → ClassId) (dI : Nat → Nat → Nat) (cI cZ cJ cD : ClassId) (a0 a1 a2 a3 : Nat) (x0 x1 x2 x3 : Int32) (sz : Nat) (h0 : ¬ x0 < 0) (h1 : x0 ≤ 5) (h2 : ¬ x0 = 4) (h3 : ¬ x0 = 3) (h4 : x1 < 0) : vx_Met l yX3_addConstraint (ws_ yX3_addConstraint cX3_addConstraint 7 (some .int)) (rm_ 2 1 6) (PC (dC, dI) (tyL cI cZ cJ cD) [(a0, .inr (3, [.ref a1, .ref a2, .ref a3, .int 0]))] sz [.ref a0, .int x0, .int x1, .int x2, .int x3]) QN (XR nIOB (va_A [(a0, .inr (3, [.ref a1, .ref a2, .ref a3, .int 0]))] sz)) 1 6 (va_A [(a0, .inr (3, [.ref a1, .ref a2, .ref a3, .int 0]))] sz) := by
  refine xm_x (cls := nIOB) (by decide +kernel) (Nat.le_of_ble_eq_true rfl) ?_
  intro p e s m below meth c A ls hx hb hr hml hown hts hlocks hno hK hP hD hE hA hS hl
  have hown : s.vm.findClass RX3 = some m.cls := hown
  have hl : lv_has ls 7 [(0, .ref a0), (1, .int x0), (2, .int x1), (3, .int x2), (4, .int x3)] := hl
  have hP : va_P (dC, dI) vwCl [(a0, .inr (3, [.ref a1, .ref a2, .ref a3, .int 0]))] s.heap := hP
  refine lv_iload_n hx hb dX3_addConstraint_0 rfl (lv_at hl 1 rfl) ?_
  refine lv_if_lt (tgt := 9) hx hb dX3_addConstraint_1 (by decide) (fun h9 => absurd h9 h0) (fun _ => ?_)
  refine lv_iload_n hx hb dX3_addConstraint_4 rfl (lv_at hl 1 rfl) ?_
  refine lv_iconst (v := 5) hx hb dX3_addConstraint_5 (by decide) ?_
  refine lv_icmp_le (tgt := 19) hx hb dX3_addConstraint_6 (by decide) (fun _ => ?_) (fun h9 => absurd h1 h9)
  refine lv_iload_n hx hb dX3_addConstraint_19 rfl (lv_at hl 1 rfl) ?_
  refine lv_iconst (v := 4) hx hb dX3_addConstraint_20 (by decide) ?_
  refine lv_icmp_ne (tgt := 28) hx hb dX3_addConstraint_21 (by decide) (fun _ => ?_) (fun h9 => absurd h9 h2)
  refine lv_iload_n hx hb dX3_addConstraint_28 rfl (lv_at hl 3 rfl) ?_
  refine lv_istore (lv' := [(5, .int x2), (0, .ref a0), (1, .int x0), (2, .int x1), (3, .int x2), (4, .int x3)]) hx hb dX3_addConstraint_29 hl (by decide) rfl (fun ls hl => ?_)
  refine lv_iload_n hx hb dX3_addConstraint_31 rfl (lv_at hl 2 rfl) ?_
  refine lv_iconst (v := 3) hx hb dX3_addConstraint_32 (by decide) ?_
  refine lv_icmp_ne (tgt := 41) hx hb dX3_addConstraint_33 (by decide) (fun _ => ?_) (fun h9 => absurd h9 h3)
  refine lv_iload_n hx hb dX3_addConstraint_41 rfl (lv_at hl 3 rfl) ?_
  refine lv_istore (lv' := [(6, .int x1), (5, .int x2), (0, .ref a0), (1, .int x0), (2, .int x1), (3, .int x2), (4, .int x3)]) hx hb dX3_addConstraint_42 hl (by decide) rfl (fun ls hl => ?_)
  refine lv_aload_n hx hb dX3_addConstraint_44 rfl (lv_at hl 2 rfl) ?_
  refine lv_iload_n hx hb dX3_addConstraint_45 rfl (lv_at hl 4 rfl) ?_
  refine xx_V (b := a0) (wc := []) (As := [.int x1]) (rest := []) (wr := [(a0, .inr (3, [.ref a1, .ref a2, .ref a3, .int 0]))]) ⟨hx, hb, hml, hown, hts⟩ (kX3_requireVariable_0 l hfl dC dI cI cZ cJ cD a0 x1 _ h4) q495 okX3_requireVariable hP hD hK hE hS hA [] [0] rfl rfl (by decide) (by decide) (by decide) (ci := 3) rfl 0 rfl rfl rfl hl.1 rfl (Nat.le_of_ble_eq_true rfl) ⟨rfl, rfl⟩ ⟨Nat.le_of_ble_eq_true rfl, Nat.le_of_ble_eq_true rfl⟩ ⟨Nat.le_of_ble_eq_true rfl, Nat.le_of_ble_eq_true rfl⟩ dX3_addConstraint_46 (fun q9 ce H locs h1 h2 h3 hP hD hS => ?_)
  exact xx_out hno hlocks h1 h2 h3 hS (Nat.le_of_ble_eq_true rfl) (Nat.le_of_ble_eq_true rfl)
set_option maxHeartbeats 4000000 in
set_option maxRecDepth 100000 in
theorem kL_addConstraint_6 (l : Launch) (hfl : l.stackTraces = false) (dC : Nat → ClassId) (dI : Nat → Nat → Nat) (cI cZ cJ cD : ClassId) (a0 a1 a2 a3 a4 : Nat) (x0 x1 x2 x3 : Int32) (sz : Nat) (h0 : ¬ x0 < 0) (h1 : x0 ≤ 5) (h2 : ¬ x0 = 4) (h3 : ¬ x0 = 3) (h4 : x1 < 0) : Met l yL_addConstraint (wh_ yL_addConstraint cL_addConstraint 7 (some .int) [(0, 14, 17, 13), (0, 14, 21, 21), (0, 14, 25, 15)]) (rm_ 3 1 6) (PC (dC, dI) (tyL cI cZ cJ cD) [(a0, .inr (3, [.ref a2, .ref a3, .ref a4, .int 0]))] sz [.ref a0, .int x0, .int x1, .int x2, .int x3, .ref a1]) (QR (dC, dI) [] (some (.int 2)) (va_A [(a0, .inr (3, [.ref a2, .ref a3, .ref a4, .int 0]))] sz)) 1 6 (va_A [(a0, .inr (3, [.ref a2, .ref a3, .ref a4, .int 0]))] sz) := by
  refine xm_h (QQ := QR (dC, dI) [] (some (.int 2))) (by decide +kernel) (Nat.le_of_ble_eq_true rfl) ?_
  intro p e s m below meth c A ls hx hb hr hml hown hts hlocks htab hK hP hD hE hA hS hl
  have hown : s.vm.findClass RL = some m.cls := hown
  have hl : lv_has ls 7 [(0, .ref a0), (1, .int x0), (2, .int x1), (3, .int x2), (4, .int x3), (5, .ref a1)] := hl
  have hP : va_P (dC, dI) vwCl [(a0, .inr (3, [.ref a2, .ref a3, .ref a4, .int 0]))] s.heap := hP
  refine lv_aload hx hb dL_addConstraint_0 (lv_at hl 5 rfl) ?_
  refine lv_iconst (v := 0) hx hb dL_addConstraint_2 (by decide) ?_
  refine lv_aload_n hx hb dL_addConstraint_3 rfl (lv_at hl 0 rfl) ?_
  refine lv_iload_n hx hb dL_addConstraint_4 rfl (lv_at hl 1 rfl) ?_
  refine lv_iload_n hx hb dL_addConstraint_5 rfl (lv_at hl 2 rfl) ?_
  refine lv_iload_n hx hb dL_addConstraint_6 rfl (lv_at hl 3 rfl) ?_
  refine lv_iload hx hb dL_addConstraint_7 (lv_at hl 4 rfl) ?_
  refine xx_V (b := a0) (wc := [(a0, .inr (3, [.ref a2, .ref a3, .ref a4, .int 0]))]) (As := [.int x0, .int x1, .int x2, .int x3]) (rest := [.int 0, .ref a1]) (wr := []) ⟨hx, hb, hml, hown, hts⟩ (kX3_addConstraint_6 l hfl dC dI cI cZ cJ cD a0 a2 a3 a4 x0 x1 x2 x3 _ h0 h1 h2 h3 h4) q490 okX3_addConstraint hP hD hK hE hS hA [0] [] rfl rfl (by decide) (by decide) (by decide) (ci := 3) rfl 0 rfl rfl rfl hl.1 rfl (Nat.le_of_ble_eq_true rfl) ⟨rfl, rfl⟩ ⟨Nat.le_of_ble_eq_true rfl, Nat.le_of_ble_eq_true rfl⟩ ⟨Nat.le_of_ble_eq_true rfl, Nat.le_of_ble_eq_true rfl⟩ dL_addConstraint_9 (fun q9 ce H locs h1 h2 h3 hP hD hS => ?_)
  refine vx_catch (own := RL) (name := nIOB) (E := nIOB) hown [⟨0, 14, 17, 13⟩] ⟨0, 14, 21, 21⟩ [⟨0, 14, 25, 15⟩] htab (fun z hz => by
      simp only [List.mem_cons, List.not_mem_nil, or_false] at hz
      subst hz
      exact Or.inr ⟨by decide, _, hts _ q391, hE.2.2.nc.2.2.2.2.1⟩) (by decide) (by decide) (hts _ q489) (hE.2.2.cIOB.use rfl) h1 h2 h3 ?_
  refine W.eq (g2 := F0 m 21 ls [.ref q9]) rfl ?_
  refine lv_astore (lv' := [(6, .ref q9), (0, .ref a0), (1, .int x0), (2, .int x1), (3, .int x2), (4, .int x3), (5, .ref a1)]) hx hb dL_addConstraint_21 hl (by decide) rfl (fun ls hl => ?_)
  refine lv_iconst (v := 2) hx hb dL_addConstraint_23 (by decide) ?_
  exact xr_i hx hb hr hlocks hP hD hS [] rfl (by decide) (Nat.le_of_ble_eq_true rfl) (Nat.le_of_ble_eq_true rfl) dL_addConstraint_24
set_option maxHeartbeats 4000000 in
set_option maxRecDepth 100000 in
theorem kX3_addConstraint_7 (l : Launch) (hfl : l.stackTraces = false) (dC : Nat → ClassId) (dI : Nat → Nat → Nat) (cI cZ cJ cD : ClassId) (a0 a1 a2 a3 a4 a5 a6 a7 a8 a9 a10 a11 a12 a13 a14 : Nat) (x0 x1 x2 x3 : Int32) (sz : Nat) (h0 : ¬ x0 < 0) (h1 : x0 ≤ 5) (h2 : ¬ x0 = 4) (h3 : ¬ x0 = 3) (h4 : ¬ x1 < 0) : vx_Met l yX3_addConstraint (ws_ yX3_addConstraint cX3_addConstraint 7 (some .int)) (rm_ 2 1 6) (PC (dC, dI) (tyL cI cZ cJ cD) [(a0, .inr (3, [.ref a1, .ref a2, .ref a3, .int 0])), (a1, .inr (1, [.int 0, .ref a4, .ref a5, .ref a6, .ref a7, .ref a8, .ref a9, .ref a10, .int 0, .ref a11, .ref a12, .ref a13, .ref a14]))] sz [.ref a0, .int x0, .int x1, .int x2, .int x3]) QN (XR nIOB (va_A [(a0, .inr (3, [.ref a1, .ref a2, .ref a3, .int 0])), (a1, .inr (1, [.int 0, .ref a4, .ref a5, .ref a6, .ref a7, .ref a8, .ref a9, .ref a10, .int 0, .ref a11, .ref a12, .ref a13, .ref a14]))] sz)) 1 6 (va_A [(a0, .inr (3, [.ref a1, .ref a2, .ref a3, .int 0])), (a1, .inr (1, [.int 0, .ref a4, .ref a5, .ref a6, .ref a7, .ref a8, .ref a9, .ref a10, .int 0, .ref a11, .ref a12, .ref a13, .ref a14]))] sz) := by
  refine xm_x (cls := nIOB) (by decide +kernel) (Nat.le_of_ble_eq_true rfl) ?_
  intro p e s m below meth c A ls hx hb hr hml hown hts hlocks hno hK hP hD hE hA hS hl
  have hown : s.vm.findClass RX3 = some m.cls := hown
  have hl : lv_has ls 7 [(0, .ref a0), (1, .int x0), (2, .int x1), (3, .int x2), (4, .int x3)] := hl
  have hP : va_P (dC, dI) vwCl [(a0, .inr (3, [.ref a1, .ref a2, .ref a3, .int 0])), (a1, .inr (1, [.int 0, .ref a4, .ref a5, .ref a6, .ref a7, .ref a8, .ref a9, .ref a10, .int 0, .ref a11, .ref a12, .ref a13, .ref a14]))] s.heap := hP
  refine lv_iload_n hx hb dX3_addConstraint_0 rfl (lv_at hl 1 rfl) ?_
  refine lv_if_lt (tgt := 9) hx hb dX3_addConstraint_1 (by decide) (fun h9 => absurd h9 h0) (fun _ => ?_)
  refine lv_iload_n hx hb dX3_addConstraint_4 rfl (lv_at hl 1 rfl) ?_
  refine lv_iconst (v := 5) hx hb dX3_addConstraint_5 (by decide) ?_
  refine lv_icmp_le (tgt := 19) hx hb dX3_addConstraint_6 (by decide) (fun _ => ?_) (fun h9 => absurd h1 h9)
  refine lv_iload_n hx hb dX3_addConstraint_19 rfl (lv_at hl 1 rfl) ?_
  refine lv_iconst (v := 4) hx hb dX3_addConstraint_20 (by decide) ?_
  refine lv_icmp_ne (tgt := 28) hx hb dX3_addConstraint_21 (by decide) (fun _ => ?_) (fun h9 => absurd h9 h2)
  refine lv_iload_n hx hb dX3_addConstraint_28 rfl (lv_at hl 3 rfl) ?_
  refine lv_istore (lv' := [(5, .int x2), (0, .ref a0), (1, .int x0), (2, .int x1), (3, .int x2), (4, .int x3)]) hx hb dX3_addConstraint_29 hl (by decide) rfl (fun ls hl => ?_)
  refine lv_iload_n hx hb dX3_addConstraint_31 rfl (lv_at hl 2 rfl) ?_
  refine lv_iconst (v := 3) hx hb dX3_addConstraint_32 (by decide) ?_
  refine lv_icmp_ne (tgt := 41) hx hb dX3_addConstraint_33 (by decide) (fun _ => ?_) (fun h9 => absurd h9 h3)
  refine lv_iload_n hx hb dX3_addConstraint_41 rfl (lv_at hl 3 rfl) ?_
  refine lv_istore (lv' := [(6, .int x1), (5, .int x2), (0, .ref a0), (1, .int x0), (2, .int x1), (3, .int x2), (4, .int x3)]) hx hb dX3_addConstraint_42 hl (by decide) rfl (fun ls hl => ?_)
  refine lv_aload_n hx hb dX3_addConstraint_44 rfl (lv_at hl 2 rfl) ?_
  refine lv_iload_n hx hb dX3_addConstraint_45 rfl (lv_at hl 4 rfl) ?_
  refine xx_V (b := a0) (wc := [(a0, .inr (3, [.ref a1, .ref a2, .ref a3, .int 0])), (a1, .inr (1, [.int 0, .ref a4, .ref a5, .ref a6, .ref a7, .ref a8, .ref a9, .ref a10, .int 0, .ref a11, .ref a12, .ref a13, .ref a14]))]) (As := [.int x1]) (rest := []) (wr := []) ⟨hx, hb, hml, hown, hts⟩ (kX3_requireVariable_1 l hfl dC dI cI cZ cJ cD a0 a1 a2 a3 a4 a5 a6 a7 a8 a9 a10 a11 a12 a13 a14 x1 _ h4) q495 okX3_requireVariable hP hD hK hE hS hA [0, 1] [] rfl rfl (by decide) (by decide) (by decide) (ci := 3) rfl 0 rfl rfl rfl hl.1 rfl (Nat.le_of_ble_eq_true rfl) ⟨rfl, rfl⟩ ⟨Nat.le_of_ble_eq_true rfl, Nat.le_of_ble_eq_true rfl⟩ ⟨Nat.le_of_ble_eq_true rfl, Nat.le_of_ble_eq_true rfl⟩ dX3_addConstraint_46 (fun q9 ce H locs h1 h2 h3 hP hD hS => ?_)
  exact xx_out hno hlocks h1 h2 h3 hS (Nat.le_of_ble_eq_true rfl) (Nat.le_of_ble_eq_true rfl)
