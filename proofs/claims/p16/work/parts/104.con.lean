set_option maxHeartbeats 4000000 in
set_option maxRecDepth 100000 in
theorem kX3_explore_0 (l : Launch) (hfl : l.stackTraces = false) (dC : Nat → ClassId) (dI : Nat → Nat → Nat) (cI cZ cJ cD : ClassId) (a0 a1 a2 a3 a4 a5 a6 a7 a8 a9 a10 a11 a12 a13 a14 a15 a16 a17 a18 a19 a20 a21 a22 a23 a24 : Nat) (sz : Nat) : Met l yX3_explore (ws_ yX3_explore cX3_explore 1 (some .int)) (rm_ 5 0 0) (PC (dC, dI) (tyL cI cZ cJ cD) [(a0, .inr (3, [.ref a1, .ref a2, .ref a3, .int 0])), (a1, .inr (1, [.int 0, .ref a4, .ref a5, .ref a6, .ref a7, .ref a8, .ref a9, .ref a10, .int 0, .ref a11, .ref a12, .ref a13, .ref a14])), (a2, .inr (0, [.int 0, .int 0, .int 1, .ref a15, .ref a16, .ref a17, .ref a18, .ref a19, .ref a20, .int 0, .ref a21, .ref a22, .ref a23])), (a15, .inl (cI, 250, .inl (fun _ => 0))), (a16, .inl (cZ, 250, .inl (fun _ => 0))), (a17, .inl (cI, 250, .inl (fun _ => 0))), (a18, .inl (cI, 512, .inl (fun _ => 0))), (a19, .inl (cI, 251, .inl (fun _ => 0))), (a20, .inl (cI, 1024, .inl (fun _ => 0))), (a3, .inr (2, [.ref a1, .ref a2, .ref a24, .int (-1)]))] sz [.ref a0]) (QR (dC, dI) [(a0, .inr (3, [.ref a1, .ref a2, .ref a3, .int 1])), (a1, .inr (1, [.int 0, .ref a4, .ref a5, .ref a6, .ref a7, .ref a8, .ref a9, .ref a10, .int 0, .ref a11, .ref a12, .ref a13, .ref a14])), (a2, .inr (0, [.int 2, .int 1, .int 1, .ref a15, .ref a16, .ref a17, .ref a18, .ref a19, .ref a20, .int 1, .ref a21, .ref a22, .ref a23])), (a15, .inl (cI, 250, .inl (upd (upd (fun _ => 0) 0 0) 1 0))), (a16, .inl (cZ, 250, .inl (upd (upd (fun _ => 0) 0 1) 1 0))), (a17, .inl (cI, 250, .inl (upd (upd (fun _ => 0) 0 0) 1 1))), (a18, .inl (cI, 512, .inl (upd (upd (fun _ => 0) 316 1) 0 2))), (a19, .inl (cI, 251, .inl (upd (upd (upd (fun _ => 0) 0 0) 1 1) 2 1))), (a20, .inl (cI, 1024, .inl (upd (fun _ => 0) 0 1))), (a3, .inr (2, [.ref a1, .ref a2, .ref a24, .int 1]))] (some (.int 2)) (va_A [(a0, .inr (3, [.ref a1, .ref a2, .ref a3, .int 0])), (a1, .inr (1, [.int 0, .ref a4, .ref a5, .ref a6, .ref a7, .ref a8, .ref a9, .ref a10, .int 0, .ref a11, .ref a12, .ref a13, .ref a14])), (a2, .inr (0, [.int 0, .int 0, .int 1, .ref a15, .ref a16, .ref a17, .ref a18, .ref a19, .ref a20, .int 0, .ref a21, .ref a22, .ref a23])), (a15, .inl (cI, 250, .inl (fun _ => 0))), (a16, .inl (cZ, 250, .inl (fun _ => 0))), (a17, .inl (cI, 250, .inl (fun _ => 0))), (a18, .inl (cI, 512, .inl (fun _ => 0))), (a19, .inl (cI, 251, .inl (fun _ => 0))), (a20, .inl (cI, 1024, .inl (fun _ => 0))), (a3, .inr (2, [.ref a1, .ref a2, .ref a24, .int (-1)]))] sz)) 0 0 (va_A [(a0, .inr (3, [.ref a1, .ref a2, .ref a3, .int 0])), (a1, .inr (1, [.int 0, .ref a4, .ref a5, .ref a6, .ref a7, .ref a8, .ref a9, .ref a10, .int 0, .ref a11, .ref a12, .ref a13, .ref a14])), (a2, .inr (0, [.int 0, .int 0, .int 1, .ref a15, .ref a16, .ref a17, .ref a18, .ref a19, .ref a20, .int 0, .ref a21, .ref a22, .ref a23])), (a15, .inl (cI, 250, .inl (fun _ => 0))), (a16, .inl (cZ, 250, .inl (fun _ => 0))), (a17, .inl (cI, 250, .inl (fun _ => 0))), (a18, .inl (cI, 512, .inl (fun _ => 0))), (a19, .inl (cI, 251, .inl (fun _ => 0))), (a20, .inl (cI, 1024, .inl (fun _ => 0))), (a3, .inr (2, [.ref a1, .ref a2, .ref a24, .int (-1)]))] sz) := by
  refine xm_of (QQ := QR (dC, dI) [(a0, .inr (3, [.ref a1, .ref a2, .ref a3, .int 1])), (a1, .inr (1, [.int 0, .ref a4, .ref a5, .ref a6, .ref a7, .ref a8, .ref a9, .ref a10, .int 0, .ref a11, .ref a12, .ref a13, .ref a14])), (a2, .inr (0, [.int 2, .int 1, .int 1, .ref a15, .ref a16, .ref a17, .ref a18, .ref a19, .ref a20, .int 1, .ref a21, .ref a22, .ref a23])), (a15, .inl (cI, 250, .inl (upd (upd (fun _ => 0) 0 0) 1 0))), (a16, .inl (cZ, 250, .inl (upd (upd (fun _ => 0) 0 1) 1 0))), (a17, .inl (cI, 250, .inl (upd (upd (fun _ => 0) 0 0) 1 1))), (a18, .inl (cI, 512, .inl (upd (upd (fun _ => 0) 316 1) 0 2))), (a19, .inl (cI, 251, .inl (upd (upd (upd (fun _ => 0) 0 0) 1 1) 2 1))), (a20, .inl (cI, 1024, .inl (upd (fun _ => 0) 0 1))), (a3, .inr (2, [.ref a1, .ref a2, .ref a24, .int 1]))] (some (.int 2))) (by decide +kernel) (Nat.le_of_ble_eq_true rfl) ?_
  intro p e s m below meth c A ls hx hb hr hml hown hts hlocks hin hK hP hD hE hA hS hl
  have hown : s.vm.findClass RX3 = some m.cls := hown
  have hl : lv_has ls 1 [(0, .ref a0)] := hl
  have hP : va_P (dC, dI) vwCl [(a0, .inr (3, [.ref a1, .ref a2, .ref a3, .int 0])), (a1, .inr (1, [.int 0, .ref a4, .ref a5, .ref a6, .ref a7, .ref a8, .ref a9, .ref a10, .int 0, .ref a11, .ref a12, .ref a13, .ref a14])), (a2, .inr (0, [.int 0, .int 0, .int 1, .ref a15, .ref a16, .ref a17, .ref a18, .ref a19, .ref a20, .int 0, .ref a21, .ref a22, .ref a23])), (a15, .inl (cI, 250, .inl (fun _ => 0))), (a16, .inl (cZ, 250, .inl (fun _ => 0))), (a17, .inl (cI, 250, .inl (fun _ => 0))), (a18, .inl (cI, 512, .inl (fun _ => 0))), (a19, .inl (cI, 251, .inl (fun _ => 0))), (a20, .inl (cI, 1024, .inl (fun _ => 0))), (a3, .inr (2, [.ref a1, .ref a2, .ref a24, .int (-1)]))] s.heap := hP
  refine lv_aload_n hx hb dX3_explore_0 rfl (lv_at hl 0 rfl) ?_
  refine va_get (D := (dC, dI)) (ci := 3) (v := .int 0) (C := RX3) (T := TX3) (N := 4) hx hb hts inX3 hown hK hP 0 rfl rfl 3 (by decide) (hts _ q167) (fun _ h9 => h9) rfl dX3_explore_1 ?_
  refine lv_if_ne (tgt := 19) hx hb dX3_explore_4 (by decide) (fun h9 => absurd (by decide) h9) (fun _ => ?_)
  refine lv_aload_n hx hb dX3_explore_7 rfl (lv_at hl 0 rfl) ?_
  refine va_get (D := (dC, dI)) (ci := 3) (v := .ref a3) (C := RX3) (T := TX3) (N := 4) hx hb hts inX3 hown hK hP 0 rfl rfl 2 (by decide) (hts _ q166) (fun _ h9 => h9) rfl dX3_explore_8 ?_
  refine xc_V (b := a3) (wc := [(a1, .inr (1, [.int 0, .ref a4, .ref a5, .ref a6, .ref a7, .ref a8, .ref a9, .ref a10, .int 0, .ref a11, .ref a12, .ref a13, .ref a14])), (a2, .inr (0, [.int 0, .int 0, .int 1, .ref a15, .ref a16, .ref a17, .ref a18, .ref a19, .ref a20, .int 0, .ref a21, .ref a22, .ref a23])), (a15, .inl (cI, 250, .inl (fun _ => 0))), (a16, .inl (cZ, 250, .inl (fun _ => 0))), (a17, .inl (cI, 250, .inl (fun _ => 0))), (a18, .inl (cI, 512, .inl (fun _ => 0))), (a19, .inl (cI, 251, .inl (fun _ => 0))), (a20, .inl (cI, 1024, .inl (fun _ => 0))), (a3, .inr (2, [.ref a1, .ref a2, .ref a24, .int (-1)]))]) (As := []) (rest := []) (wr := [(a0, .inr (3, [.ref a1, .ref a2, .ref a3, .int 0]))]) ⟨hx, hb, hml, hown, hts⟩ (kX2_exploreAll_0 l hfl dC dI cI cZ cJ cD a3 a1 a4 a5 a6 a7 a8 a9 a10 a11 a12 a13 a14 a2 a15 a16 a17 a18 a19 a20 a21 a22 a23 a24 _) q193 okX2_exploreAll hP hD hK hE hS hA [1, 2, 3, 4, 5, 6, 7, 8, 9] [0] rfl rfl (by decide) (by decide) (by decide) (ci := 2) rfl 9 rfl rfl rfl hl.1 rfl (Nat.le_of_ble_eq_true rfl) ⟨rfl, rfl⟩ ⟨Nat.le_of_ble_eq_true rfl, Nat.le_of_ble_eq_true rfl⟩ ⟨Nat.le_of_ble_eq_true rfl, Nat.le_of_ble_eq_true rfl⟩ dX3_explore_11 (fun H locs hP hD hS => ?_)
  have hP : va_P (dC, dI) vwCl [(a0, .inr (3, [.ref a1, .ref a2, .ref a3, .int 0])), (a1, .inr (1, [.int 0, .ref a4, .ref a5, .ref a6, .ref a7, .ref a8, .ref a9, .ref a10, .int 0, .ref a11, .ref a12, .ref a13, .ref a14])), (a2, .inr (0, [.int 2, .int 1, .int 1, .ref a15, .ref a16, .ref a17, .ref a18, .ref a19, .ref a20, .int 1, .ref a21, .ref a22, .ref a23])), (a15, .inl (cI, 250, .inl (upd (upd (fun _ => 0) 0 0) 1 0))), (a16, .inl (cZ, 250, .inl (upd (upd (fun _ => 0) 0 1) 1 0))), (a17, .inl (cI, 250, .inl (upd (upd (fun _ => 0) 0 0) 1 1))), (a18, .inl (cI, 512, .inl (upd (upd (fun _ => 0) 316 1) 0 2))), (a19, .inl (cI, 251, .inl (upd (upd (upd (fun _ => 0) 0 0) 1 1) 2 1))), (a20, .inl (cI, 1024, .inl (upd (fun _ => 0) 0 1))), (a3, .inr (2, [.ref a1, .ref a2, .ref a24, .int 1]))] H := hP
  have hD : va_D A [(a0, .inr (3, [.ref a1, .ref a2, .ref a3, .int 0])), (a1, .inr (1, [.int 0, .ref a4, .ref a5, .ref a6, .ref a7, .ref a8, .ref a9, .ref a10, .int 0, .ref a11, .ref a12, .ref a13, .ref a14])), (a2, .inr (0, [.int 2, .int 1, .int 1, .ref a15, .ref a16, .ref a17, .ref a18, .ref a19, .ref a20, .int 1, .ref a21, .ref a22, .ref a23])), (a15, .inl (cI, 250, .inl (upd (upd (fun _ => 0) 0 0) 1 0))), (a16, .inl (cZ, 250, .inl (upd (upd (fun _ => 0) 0 1) 1 0))), (a17, .inl (cI, 250, .inl (upd (upd (fun _ => 0) 0 0) 1 1))), (a18, .inl (cI, 512, .inl (upd (upd (fun _ => 0) 316 1) 0 2))), (a19, .inl (cI, 251, .inl (upd (upd (upd (fun _ => 0) 0 0) 1 1) 2 1))), (a20, .inl (cI, 1024, .inl (upd (fun _ => 0) 0 1))), (a3, .inr (2, [.ref a1, .ref a2, .ref a24, .int 1]))] := hD
  refine W.eq (g2 := F0 m 14 ls []) rfl ?_
  refine lv_aload_n hx hb dX3_explore_14 rfl (lv_at hl 0 rfl) ?_
  refine lv_iconst (v := 1) hx hb dX3_explore_15 (by decide) ?_
  refine va_put (D := (dC, dI)) (ci := 3) (v := .int 1) (ty := .boolean) (C := RX3) (T := TX3) (N := 4) hx hb hts inX3 tyX3 tyX3_ok nmX3 hown hK hP hD hS 0 rfl rfl 3 (by decide) (hts _ q167) (fun _ h9 => h9) rfl (by decide +kernel) rfl rfl (Nat.le_of_ble_eq_true rfl) dX3_explore_16 (fun H locs hP hD hS => ?_)
  have hP : va_P (dC, dI) vwCl [(a0, .inr (3, [.ref a1, .ref a2, .ref a3, .int 1])), (a1, .inr (1, [.int 0, .ref a4, .ref a5, .ref a6, .ref a7, .ref a8, .ref a9, .ref a10, .int 0, .ref a11, .ref a12, .ref a13, .ref a14])), (a2, .inr (0, [.int 2, .int 1, .int 1, .ref a15, .ref a16, .ref a17, .ref a18, .ref a19, .ref a20, .int 1, .ref a21, .ref a22, .ref a23])), (a15, .inl (cI, 250, .inl (upd (upd (fun _ => 0) 0 0) 1 0))), (a16, .inl (cZ, 250, .inl (upd (upd (fun _ => 0) 0 1) 1 0))), (a17, .inl (cI, 250, .inl (upd (upd (fun _ => 0) 0 0) 1 1))), (a18, .inl (cI, 512, .inl (upd (upd (fun _ => 0) 316 1) 0 2))), (a19, .inl (cI, 251, .inl (upd (upd (upd (fun _ => 0) 0 0) 1 1) 2 1))), (a20, .inl (cI, 1024, .inl (upd (fun _ => 0) 0 1))), (a3, .inr (2, [.ref a1, .ref a2, .ref a24, .int 1]))] H := hP
  have hD : va_D A [(a0, .inr (3, [.ref a1, .ref a2, .ref a3, .int 1])), (a1, .inr (1, [.int 0, .ref a4, .ref a5, .ref a6, .ref a7, .ref a8, .ref a9, .ref a10, .int 0, .ref a11, .ref a12, .ref a13, .ref a14])), (a2, .inr (0, [.int 2, .int 1, .int 1, .ref a15, .ref a16, .ref a17, .ref a18, .ref a19, .ref a20, .int 1, .ref a21, .ref a22, .ref a23])), (a15, .inl (cI, 250, .inl (upd (upd (fun _ => 0) 0 0) 1 0))), (a16, .inl (cZ, 250, .inl (upd (upd (fun _ => 0) 0 1) 1 0))), (a17, .inl (cI, 250, .inl (upd (upd (fun _ => 0) 0 0) 1 1))), (a18, .inl (cI, 512, .inl (upd (upd (fun _ => 0) 316 1) 0 2))), (a19, .inl (cI, 251, .inl (upd (upd (upd (fun _ => 0) 0 0) 1 1) 2 1))), (a20, .inl (cI, 1024, .inl (upd (fun _ => 0) 0 1))), (a3, .inr (2, [.ref a1, .ref a2, .ref a24, .int 1]))] := hD
  refine lv_aload_n hx hb dX3_explore_19 rfl (lv_at hl 0 rfl) ?_
  refine va_get (D := (dC, dI)) (ci := 3) (v := .ref a2) (C := RX3) (T := TX3) (N := 4) hx hb hts inX3 hown hK hP 0 rfl rfl 1 (by decide) (hts _ q165) (fun _ h9 => h9) rfl dX3_explore_20 ?_
  refine va_get (D := (dC, dI)) (ci := 0) (v := .int 2) (C := RX0) (T := TX0) (N := 13) hx hb hts inX0 hown hK hP 2 rfl rfl 0 (by decide) (hts _ q92) (fun _ h9 => h9) rfl dX3_explore_23 ?_
  exact xr_i hx hb hr hlocks hP hD hS [0, 1, 2, 3, 4, 5, 6, 7, 8, 9] rfl (by decide) (Nat.le_of_ble_eq_true rfl) (Nat.le_of_ble_eq_true rfl) dX3_explore_26
set_option maxHeartbeats 4000000 in
set_option maxRecDepth 100000 in
theorem kX4_power_0 (l : Launch) (hfl : l.stackTraces = false) (dC : Nat → ClassId) (dI : Nat → Nat → Nat) (cI cZ cJ cD : ClassId) (sz : Nat) : Met l yX4_power (ws_ yX4_power cX4_power 3 (some .int)) (rm_ 1 0 0) (PC (dC, dI) (tyL cI cZ cJ cD) [] sz [.int 0]) (QR (dC, dI) [] (some (.int 1)) (va_A [] sz)) 0 0 (va_A [] sz) := by
  refine xm_of (QQ := QR (dC, dI) [] (some (.int 1))) (by decide +kernel) (Nat.le_of_ble_eq_true rfl) ?_
  intro p e s m below meth c A ls hx hb hr hml hown hts hlocks hin hK hP hD hE hA hS hl
  have hown : s.vm.findClass RX4 = some m.cls := hown
  have hl : lv_has ls 3 [(0, .int 0)] := hl
  have hP : va_P (dC, dI) vwCl [] s.heap := hP
  refine lv_iconst (v := 1) hx hb dX4_power_0 (by decide) ?_
  refine lv_istore_n (lv' := [(1, .int 1), (0, .int 0)]) hx hb dX4_power_1 rfl hl (by decide) rfl (fun ls hl => ?_)
  refine lv_iconst (v := 0) hx hb dX4_power_2 (by decide) ?_
  refine lv_istore_n (lv' := [(2, .int 0), (1, .int 1), (0, .int 0)]) hx hb dX4_power_3 rfl hl (by decide) rfl (fun ls hl => ?_)
  refine lv_iload_n hx hb dX4_power_4 rfl (lv_at hl 0 rfl) ?_
  refine lv_iload_n hx hb dX4_power_5 rfl (lv_at hl 2 rfl) ?_
  refine lv_icmp_ge (tgt := 20) hx hb dX4_power_6 (by decide) (fun _ => ?_) (fun h9 => absurd (by decide) h9)
  refine lv_iload_n hx hb dX4_power_20 rfl (lv_at hl 1 rfl) ?_
  exact xr_i hx hb hr hlocks hP hD hS [] rfl (by decide) (Nat.le_of_ble_eq_true rfl) (Nat.le_of_ble_eq_true rfl) dX4_power_21
set_option maxHeartbeats 4000000 in
set_option maxRecDepth 100000 in
theorem kX4_isAllowed_0 (l : Launch) (hfl : l.stackTraces = false) (dC : Nat → ClassId) (dI : Nat → Nat → Nat) (cI cZ cJ cD : ClassId) (a0 a1 a2 a3 a4 a5 a6 a7 a8 a9 a10 a11 a12 a13 : Nat) (sz : Nat) : Met l yX4_isAllowed (ws_ yX4_isAllowed cX4_isAllowed 3 (some .boolean)) (rm_ 1 0 0) (PC (dC, dI) (tyL cI cZ cJ cD) [(a0, .inr (4, [.int 0, .int 0, .ref a1, .ref a2, .ref a3, .ref a4, .int 0, .ref a5, .ref a6, .ref a7, .ref a8, .int 0, .int 1, .int 0, .int 0, .ref a9, .ref a10, .ref a11, .ref a12, .ref a13]))] sz [.ref a0, .int 0]) (QR (dC, dI) [(a0, .inr (4, [.int 0, .int 0, .ref a1, .ref a2, .ref a3, .ref a4, .int 0, .ref a5, .ref a6, .ref a7, .ref a8, .int 0, .int 1, .int 0, .int 0, .ref a9, .ref a10, .ref a11, .ref a12, .ref a13]))] (some (.int 1)) (va_A [(a0, .inr (4, [.int 0, .int 0, .ref a1, .ref a2, .ref a3, .ref a4, .int 0, .ref a5, .ref a6, .ref a7, .ref a8, .int 0, .int 1, .int 0, .int 0, .ref a9, .ref a10, .ref a11, .ref a12, .ref a13]))] sz)) 0 0 (va_A [(a0, .inr (4, [.int 0, .int 0, .ref a1, .ref a2, .ref a3, .ref a4, .int 0, .ref a5, .ref a6, .ref a7, .ref a8, .int 0, .int 1, .int 0, .int 0, .ref a9, .ref a10, .ref a11, .ref a12, .ref a13]))] sz) := by
  refine xm_of (QQ := QR (dC, dI) [(a0, .inr (4, [.int 0, .int 0, .ref a1, .ref a2, .ref a3, .ref a4, .int 0, .ref a5, .ref a6, .ref a7, .ref a8, .int 0, .int 1, .int 0, .int 0, .ref a9, .ref a10, .ref a11, .ref a12, .ref a13]))] (some (.int 1))) (by decide +kernel) (Nat.le_of_ble_eq_true rfl) ?_
  intro p e s m below meth c A ls hx hb hr hml hown hts hlocks hin hK hP hD hE hA hS hl
  have hown : s.vm.findClass RX4 = some m.cls := hown
  have hl : lv_has ls 3 [(0, .ref a0), (1, .int 0)] := hl
  have hP : va_P (dC, dI) vwCl [(a0, .inr (4, [.int 0, .int 0, .ref a1, .ref a2, .ref a3, .ref a4, .int 0, .ref a5, .ref a6, .ref a7, .ref a8, .int 0, .int 1, .int 0, .int 0, .ref a9, .ref a10, .ref a11, .ref a12, .ref a13]))] s.heap := hP
  refine lv_iconst (v := 0) hx hb dX4_isAllowed_0 (by decide) ?_
  refine lv_istore_n (lv' := [(2, .int 0), (0, .ref a0), (1, .int 0)]) hx hb dX4_isAllowed_1 rfl hl (by decide) rfl (fun ls hl => ?_)
  refine lv_iload_n hx hb dX4_isAllowed_2 rfl (lv_at hl 0 rfl) ?_
  refine lv_aload_n hx hb dX4_isAllowed_3 rfl (lv_at hl 1 rfl) ?_
  refine va_get (D := (dC, dI)) (ci := 4) (v := .int 0) (C := RX4) (T := TX4) (N := 20) hx hb hts inX4 hown hK hP 0 rfl rfl 1 (by decide) (hts _ q688) (fun _ h9 => h9) rfl dX4_isAllowed_4 ?_
  refine lv_icmp_ge (tgt := 32) hx hb dX4_isAllowed_7 (by decide) (fun _ => ?_) (fun h9 => absurd (by decide) h9)
  refine lv_iconst (v := 0) hx hb dX4_isAllowed_32 (by decide) ?_
  refine lv_istore_n (lv' := [(2, .int 0), (0, .ref a0), (1, .int 0)]) hx hb dX4_isAllowed_33 rfl hl (by decide) rfl (fun ls hl => ?_)
  refine lv_iload_n hx hb dX4_isAllowed_34 rfl (lv_at hl 0 rfl) ?_
  refine lv_aload_n hx hb dX4_isAllowed_35 rfl (lv_at hl 1 rfl) ?_
  refine va_get (D := (dC, dI)) (ci := 4) (v := .int 0) (C := RX4) (T := TX4) (N := 20) hx hb hts inX4 hown hK hP 0 rfl rfl 6 (by decide) (hts _ q693) (fun _ h9 => h9) rfl dX4_isAllowed_36 ?_
  refine lv_icmp_ge (tgt := 59) hx hb dX4_isAllowed_39 (by decide) (fun _ => ?_) (fun h9 => absurd (by decide) h9)
  refine lv_iconst (v := 1) hx hb dX4_isAllowed_59 (by decide) ?_
  exact xr_z hx hb hr hlocks hP hD hS [0] rfl (by decide) rfl (Nat.le_of_ble_eq_true rfl) (Nat.le_of_ble_eq_true rfl) dX4_isAllowed_60
set_option maxHeartbeats 4000000 in
set_option maxRecDepth 100000 in
theorem kX4_isGiven_0 (l : Launch) (hfl : l.stackTraces = false) (dC : Nat → ClassId) (dI : Nat → Nat → Nat) (cI cZ cJ cD : ClassId) (a0 a1 a2 a3 a4 a5 a6 a7 a8 a9 a10 a11 a12 a13 : Nat) (sz : Nat) : Met l yX4_isGiven (ws_ yX4_isGiven cX4_isGiven 4 (some .boolean)) (rm_ 1 0 0) (PC (dC, dI) (tyL cI cZ cJ cD) [(a0, .inr (4, [.int 0, .int 0, .ref a1, .ref a2, .ref a3, .ref a4, .int 0, .ref a5, .ref a6, .ref a7, .ref a8, .int 0, .int 1, .int 0, .int 0, .ref a9, .ref a10, .ref a11, .ref a12, .ref a13]))] sz [.ref a0, .int 0]) (QR (dC, dI) [(a0, .inr (4, [.int 0, .int 0, .ref a1, .ref a2, .ref a3, .ref a4, .int 0, .ref a5, .ref a6, .ref a7, .ref a8, .int 0, .int 1, .int 0, .int 0, .ref a9, .ref a10, .ref a11, .ref a12, .ref a13]))] (some (.int 1)) (va_A [(a0, .inr (4, [.int 0, .int 0, .ref a1, .ref a2, .ref a3, .ref a4, .int 0, .ref a5, .ref a6, .ref a7, .ref a8, .int 0, .int 1, .int 0, .int 0, .ref a9, .ref a10, .ref a11, .ref a12, .ref a13]))] sz)) 0 0 (va_A [(a0, .inr (4, [.int 0, .int 0, .ref a1, .ref a2, .ref a3, .ref a4, .int 0, .ref a5, .ref a6, .ref a7, .ref a8, .int 0, .int 1, .int 0, .int 0, .ref a9, .ref a10, .ref a11, .ref a12, .ref a13]))] sz) := by
  refine xm_of (QQ := QR (dC, dI) [(a0, .inr (4, [.int 0, .int 0, .ref a1, .ref a2, .ref a3, .ref a4, .int 0, .ref a5, .ref a6, .ref a7, .ref a8, .int 0, .int 1, .int 0, .int 0, .ref a9, .ref a10, .ref a11, .ref a12, .ref a13]))] (some (.int 1))) (by decide +kernel) (Nat.le_of_ble_eq_true rfl) ?_
  intro p e s m below meth c A ls hx hb hr hml hown hts hlocks hin hK hP hD hE hA hS hl
  have hown : s.vm.findClass RX4 = some m.cls := hown
  have hl : lv_has ls 4 [(0, .ref a0), (1, .int 0)] := hl
  have hP : va_P (dC, dI) vwCl [(a0, .inr (4, [.int 0, .int 0, .ref a1, .ref a2, .ref a3, .ref a4, .int 0, .ref a5, .ref a6, .ref a7, .ref a8, .int 0, .int 1, .int 0, .int 0, .ref a9, .ref a10, .ref a11, .ref a12, .ref a13]))] s.heap := hP
  refine lv_iconst (v := 1) hx hb dX4_isGiven_0 (by decide) ?_
  refine lv_istore_n (lv' := [(2, .int 1), (0, .ref a0), (1, .int 0)]) hx hb dX4_isGiven_1 rfl hl (by decide) rfl (fun ls hl => ?_)
  refine lv_iconst (v := 0) hx hb dX4_isGiven_2 (by decide) ?_
  refine lv_istore_n (lv' := [(3, .int 0), (2, .int 1), (0, .ref a0), (1, .int 0)]) hx hb dX4_isGiven_3 rfl hl (by decide) rfl (fun ls hl => ?_)
  refine lv_iload_n hx hb dX4_isGiven_4 rfl (lv_at hl 0 rfl) ?_
  refine lv_aload_n hx hb dX4_isGiven_5 rfl (lv_at hl 2 rfl) ?_
  refine va_get (D := (dC, dI)) (ci := 4) (v := .int 0) (C := RX4) (T := TX4) (N := 20) hx hb hts inX4 hown hK hP 0 rfl rfl 1 (by decide) (hts _ q688) (fun _ h9 => h9) rfl dX4_isGiven_6 ?_
  refine lv_icmp_ge (tgt := 78) hx hb dX4_isGiven_9 (by decide) (fun _ => ?_) (fun h9 => absurd (by decide) h9)
  refine lv_iload_n hx hb dX4_isGiven_78 rfl (lv_at hl 1 rfl) ?_
  exact xr_z hx hb hr hlocks hP hD hS [0] rfl (by decide) rfl (Nat.le_of_ble_eq_true rfl) (Nat.le_of_ble_eq_true rfl) dX4_isGiven_79
set_option maxHeartbeats 4000000 in
set_option maxRecDepth 100000 in
theorem kX4_numberOf_0 (l : Launch) (hfl : l.stackTraces = false) (dC : Nat → ClassId) (dI : Nat → Nat → Nat) (cI cZ cJ cD : ClassId) (a0 a1 a2 a3 a4 a5 a6 a7 a8 a9 a10 a11 a12 a13 : Nat) (sz : Nat) : Met l yX4_numberOf (ws_ yX4_numberOf cX4_numberOf 3 (some .int)) (rm_ 1 0 0) (PC (dC, dI) (tyL cI cZ cJ cD) [(a0, .inr (4, [.int 0, .int 0, .ref a1, .ref a2, .ref a3, .ref a4, .int 0, .ref a5, .ref a6, .ref a7, .ref a8, .int 0, .int 1, .int 0, .int 0, .ref a9, .ref a10, .ref a11, .ref a12, .ref a13]))] sz [.ref a0, .int 0]) (QR (dC, dI) [(a0, .inr (4, [.int 0, .int 0, .ref a1, .ref a2, .ref a3, .ref a4, .int 0, .ref a5, .ref a6, .ref a7, .ref a8, .int 0, .int 1, .int 0, .int 0, .ref a9, .ref a10, .ref a11, .ref a12, .ref a13]))] (some (.int (-1))) (va_A [(a0, .inr (4, [.int 0, .int 0, .ref a1, .ref a2, .ref a3, .ref a4, .int 0, .ref a5, .ref a6, .ref a7, .ref a8, .int 0, .int 1, .int 0, .int 0, .ref a9, .ref a10, .ref a11, .ref a12, .ref a13]))] sz)) 0 0 (va_A [(a0, .inr (4, [.int 0, .int 0, .ref a1, .ref a2, .ref a3, .ref a4, .int 0, .ref a5, .ref a6, .ref a7, .ref a8, .int 0, .int 1, .int 0, .int 0, .ref a9, .ref a10, .ref a11, .ref a12, .ref a13]))] sz) := by
  refine xm_of (QQ := QR (dC, dI) [(a0, .inr (4, [.int 0, .int 0, .ref a1, .ref a2, .ref a3, .ref a4, .int 0, .ref a5, .ref a6, .ref a7, .ref a8, .int 0, .int 1, .int 0, .int 0, .ref a9, .ref a10, .ref a11, .ref a12, .ref a13]))] (some (.int (-1)))) (by decide +kernel) (Nat.le_of_ble_eq_true rfl) ?_
  intro p e s m below meth c A ls hx hb hr hml hown hts hlocks hin hK hP hD hE hA hS hl
  have hown : s.vm.findClass RX4 = some m.cls := hown
  have hl : lv_has ls 3 [(0, .ref a0), (1, .int 0)] := hl
  have hP : va_P (dC, dI) vwCl [(a0, .inr (4, [.int 0, .int 0, .ref a1, .ref a2, .ref a3, .ref a4, .int 0, .ref a5, .ref a6, .ref a7, .ref a8, .int 0, .int 1, .int 0, .int 0, .ref a9, .ref a10, .ref a11, .ref a12, .ref a13]))] s.heap := hP
  refine lv_iconst (v := 0) hx hb dX4_numberOf_0 (by decide) ?_
  refine lv_istore_n (lv' := [(2, .int 0), (0, .ref a0), (1, .int 0)]) hx hb dX4_numberOf_1 rfl hl (by decide) rfl (fun ls hl => ?_)
  refine lv_iload_n hx hb dX4_numberOf_2 rfl (lv_at hl 0 rfl) ?_
  refine lv_aload_n hx hb dX4_numberOf_3 rfl (lv_at hl 1 rfl) ?_
  refine va_get (D := (dC, dI)) (ci := 4) (v := .int 0) (C := RX4) (T := TX4) (N := 20) hx hb hts inX4 hown hK hP 0 rfl rfl 13 (by decide) (hts _ q700) (fun _ h9 => h9) rfl dX4_numberOf_4 ?_
  refine lv_icmp_ge (tgt := 28) hx hb dX4_numberOf_7 (by decide) (fun _ => ?_) (fun h9 => absurd (by decide) h9)
  refine lv_iconst (v := (-1)) hx hb dX4_numberOf_28 (by decide) ?_
  exact xr_i hx hb hr hlocks hP hD hS [0] rfl (by decide) (Nat.le_of_ble_eq_true rfl) (Nat.le_of_ble_eq_true rfl) dX4_numberOf_29
set_option maxHeartbeats 4000000 in
set_option maxRecDepth 100000 in
theorem kX4_add_0 (l : Launch) (hfl : l.stackTraces = false) (dC : Nat → ClassId) (dI : Nat → Nat → Nat) (cI cZ cJ cD : ClassId) (a0 a1 a2 a3 a4 a5 a6 a7 a8 a9 a10 a11 a12 a13 : Nat) (sz : Nat) : Met l yX4_add (ws_ yX4_add cX4_add 3 (some .boolean)) (rm_ 2 0 0) (PC (dC, dI) (tyL cI cZ cJ cD) [(a1, .inl (cI, 250, .inl (fun _ => 0))), (a2, .inl (cI, 250, .inl (fun _ => 0))), (a0, .inr (4, [.int 0, .int 0, .ref a3, .ref a4, .ref a5, .ref a6, .int 0, .ref a7, .ref a8, .ref a9, .ref a10, .int 0, .int 1, .int 0, .int 0, .ref a1, .ref a2, .ref a11, .ref a12, .ref a13]))] sz [.ref a0, .int 0, .int 0]) (QR (dC, dI) [(a1, .inl (cI, 250, .inl (upd (fun _ => 0) 0 0))), (a2, .inl (cI, 250, .inl (upd (fun _ => 0) 0 0))), (a0, .inr (4, [.int 0, .int 0, .ref a3, .ref a4, .ref a5, .ref a6, .int 0, .ref a7, .ref a8, .ref a9, .ref a10, .int 0, .int 1, .int 1, .int 0, .ref a1, .ref a2, .ref a11, .ref a12, .ref a13]))] (some (.int 1)) (va_A [(a1, .inl (cI, 250, .inl (fun _ => 0))), (a2, .inl (cI, 250, .inl (fun _ => 0))), (a0, .inr (4, [.int 0, .int 0, .ref a3, .ref a4, .ref a5, .ref a6, .int 0, .ref a7, .ref a8, .ref a9, .ref a10, .int 0, .int 1, .int 0, .int 0, .ref a1, .ref a2, .ref a11, .ref a12, .ref a13]))] sz)) 0 0 (va_A [(a1, .inl (cI, 250, .inl (fun _ => 0))), (a2, .inl (cI, 250, .inl (fun _ => 0))), (a0, .inr (4, [.int 0, .int 0, .ref a3, .ref a4, .ref a5, .ref a6, .int 0, .ref a7, .ref a8, .ref a9, .ref a10, .int 0, .int 1, .int 0, .int 0, .ref a1, .ref a2, .ref a11, .ref a12, .ref a13]))] sz) := by
  refine xm_of (QQ := QR (dC, dI) [(a1, .inl (cI, 250, .inl (upd (fun _ => 0) 0 0))), (a2, .inl (cI, 250, .inl (upd (fun _ => 0) 0 0))), (a0, .inr (4, [.int 0, .int 0, .ref a3, .ref a4, .ref a5, .ref a6, .int 0, .ref a7, .ref a8, .ref a9, .ref a10, .int 0, .int 1, .int 1, .int 0, .ref a1, .ref a2, .ref a11, .ref a12, .ref a13]))] (some (.int 1))) (by decide +kernel) (Nat.le_of_ble_eq_true rfl) ?_
  intro p e s m below meth c A ls hx hb hr hml hown hts hlocks hin hK hP hD hE hA hS hl
  have hown : s.vm.findClass RX4 = some m.cls := hown
  have hl : lv_has ls 3 [(0, .ref a0), (1, .int 0), (2, .int 0)] := hl
  have hP : va_P (dC, dI) vwCl [(a1, .inl (cI, 250, .inl (fun _ => 0))), (a2, .inl (cI, 250, .inl (fun _ => 0))), (a0, .inr (4, [.int 0, .int 0, .ref a3, .ref a4, .ref a5, .ref a6, .int 0, .ref a7, .ref a8, .ref a9, .ref a10, .int 0, .int 1, .int 0, .int 0, .ref a1, .ref a2, .ref a11, .ref a12, .ref a13]))] s.heap := hP
  refine lv_aload_n hx hb dX4_add_0 rfl (lv_at hl 0 rfl) ?_
  refine lv_iload_n hx hb dX4_add_1 rfl (lv_at hl 1 rfl) ?_
  refine xc_V (b := a0) (wc := [(a0, .inr (4, [.int 0, .int 0, .ref a3, .ref a4, .ref a5, .ref a6, .int 0, .ref a7, .ref a8, .ref a9, .ref a10, .int 0, .int 1, .int 0, .int 0, .ref a1, .ref a2, .ref a11, .ref a12, .ref a13]))]) (As := [.int 0]) (rest := []) (wr := [(a1, .inl (cI, 250, .inl (fun _ => 0))), (a2, .inl (cI, 250, .inl (fun _ => 0)))]) ⟨hx, hb, hml, hown, hts⟩ (kX4_numberOf_0 l hfl dC dI cI cZ cJ cD a0 a3 a4 a5 a6 a7 a8 a9 a10 a1 a2 a11 a12 a13 _) q841 okX4_numberOf hP hD hK hE hS hA [2] [0, 1] rfl rfl (by decide) (by decide) (by decide) (ci := 4) rfl 2 rfl rfl rfl hl.1 rfl (Nat.le_of_ble_eq_true rfl) ⟨rfl, rfl⟩ ⟨Nat.le_of_ble_eq_true rfl, Nat.le_of_ble_eq_true rfl⟩ ⟨Nat.le_of_ble_eq_true rfl, Nat.le_of_ble_eq_true rfl⟩ dX4_add_2 (fun H locs hP hD hS => ?_)
  have hP : va_P (dC, dI) vwCl [(a1, .inl (cI, 250, .inl (fun _ => 0))), (a2, .inl (cI, 250, .inl (fun _ => 0))), (a0, .inr (4, [.int 0, .int 0, .ref a3, .ref a4, .ref a5, .ref a6, .int 0, .ref a7, .ref a8, .ref a9, .ref a10, .int 0, .int 1, .int 0, .int 0, .ref a1, .ref a2, .ref a11, .ref a12, .ref a13]))] H := hP
  have hD : va_D A [(a1, .inl (cI, 250, .inl (fun _ => 0))), (a2, .inl (cI, 250, .inl (fun _ => 0))), (a0, .inr (4, [.int 0, .int 0, .ref a3, .ref a4, .ref a5, .ref a6, .int 0, .ref a7, .ref a8, .ref a9, .ref a10, .int 0, .int 1, .int 0, .int 0, .ref a1, .ref a2, .ref a11, .ref a12, .ref a13]))] := hD
  refine W.eq (g2 := F0 m 5 ls [.int (-1)]) rfl ?_
  refine lv_iconst (v := (-1)) hx hb dX4_add_5 (by decide) ?_
  refine lv_icmp_eq (tgt := 11) hx hb dX4_add_6 (by decide) (fun _ => ?_) (fun h9 => absurd (by decide) h9)
  refine lv_aload_n hx hb dX4_add_11 rfl (lv_at hl 0 rfl) ?_
  refine va_get (D := (dC, dI)) (ci := 4) (v := .int 0) (C := RX4) (T := TX4) (N := 20) hx hb hts inX4 hown hK hP 2 rfl rfl 13 (by decide) (hts _ q700) (fun _ h9 => h9) rfl dX4_add_12 ?_
  refine lv_sipush (v := 250) hx hb dX4_add_15 (by decide) ?_
  refine lv_icmp_ne (tgt := 28) hx hb dX4_add_18 (by decide) (fun _ => ?_) (fun h9 => absurd h9 (by decide))
  refine lv_aload_n hx hb dX4_add_28 rfl (lv_at hl 0 rfl) ?_
  refine va_get (D := (dC, dI)) (ci := 4) (v := .ref a1) (C := RX4) (T := TX4) (N := 20) hx hb hts inX4 hown hK hP 2 rfl rfl 15 (by decide) (hts _ q702) (fun _ h9 => h9) rfl dX4_add_29 ?_
  refine lv_aload_n hx hb dX4_add_32 rfl (lv_at hl 0 rfl) ?_
  refine va_get (D := (dC, dI)) (ci := 4) (v := .int 0) (C := RX4) (T := TX4) (N := 20) hx hb hts inX4 hown hK hP 2 rfl rfl 13 (by decide) (hts _ q700) (fun _ h9 => h9) rfl dX4_add_33 ?_
  refine lv_iload_n hx hb dX4_add_36 rfl (lv_at hl 1 rfl) ?_
  refine xa_iast (k := 0) (w1 := [(a1, .inl (cI, 250, .inl (upd (fun _ => 0) 0 0))), (a2, .inl (cI, 250, .inl (fun _ => 0))), (a0, .inr (4, [.int 0, .int 0, .ref a3, .ref a4, .ref a5, .ref a6, .int 0, .ref a7, .ref a8, .ref a9, .ref a10, .int 0, .int 1, .int 0, .int 0, .ref a1, .ref a2, .ref a11, .ref a12, .ref a13]))]) hx hb hK hP hD hS 0 0 rfl rfl (by decide) (by decide +kernel) (Nat.le_of_ble_eq_true rfl) rfl dX4_add_37 (fun H locs hP hD hS => ?_)
  refine lv_aload_n hx hb dX4_add_38 rfl (lv_at hl 0 rfl) ?_
  refine va_get (D := (dC, dI)) (ci := 4) (v := .ref a2) (C := RX4) (T := TX4) (N := 20) hx hb hts inX4 hown hK hP 2 rfl rfl 16 (by decide) (hts _ q703) (fun _ h9 => h9) rfl dX4_add_39 ?_
  refine lv_aload_n hx hb dX4_add_42 rfl (lv_at hl 0 rfl) ?_
  refine va_get (D := (dC, dI)) (ci := 4) (v := .int 0) (C := RX4) (T := TX4) (N := 20) hx hb hts inX4 hown hK hP 2 rfl rfl 13 (by decide) (hts _ q700) (fun _ h9 => h9) rfl dX4_add_43 ?_
  refine lv_iload_n hx hb dX4_add_46 rfl (lv_at hl 2 rfl) ?_
  refine xa_iast (k := 0) (w1 := [(a1, .inl (cI, 250, .inl (upd (fun _ => 0) 0 0))), (a2, .inl (cI, 250, .inl (upd (fun _ => 0) 0 0))), (a0, .inr (4, [.int 0, .int 0, .ref a3, .ref a4, .ref a5, .ref a6, .int 0, .ref a7, .ref a8, .ref a9, .ref a10, .int 0, .int 1, .int 0, .int 0, .ref a1, .ref a2, .ref a11, .ref a12, .ref a13]))]) hx hb hK hP hD hS 1 0 rfl rfl (by decide) (by decide +kernel) (Nat.le_of_ble_eq_true rfl) rfl dX4_add_47 (fun H locs hP hD hS => ?_)
  refine lv_aload_n hx hb dX4_add_48 rfl (lv_at hl 0 rfl) ?_
  refine lv_dup hx hb dX4_add_49 rfl ?_
  refine va_get (D := (dC, dI)) (ci := 4) (v := .int 0) (C := RX4) (T := TX4) (N := 20) hx hb hts inX4 hown hK hP 2 rfl rfl 13 (by decide) (hts _ q700) (fun _ h9 => h9) rfl dX4_add_50 ?_
  refine lv_iconst (v := 1) hx hb dX4_add_53 (by decide) ?_
  refine lv_iadd hx hb dX4_add_54 ?_
  refine tI (v := 1) (by decide +kernel) ?_
  refine va_put (D := (dC, dI)) (ci := 4) (v := .int 1) (ty := .int) (C := RX4) (T := TX4) (N := 20) hx hb hts inX4 tyX4 tyX4_ok nmX4 hown hK hP hD hS 2 rfl rfl 13 (by decide) (hts _ q700) (fun _ h9 => h9) rfl (by decide +kernel) rfl rfl (Nat.le_of_ble_eq_true rfl) dX4_add_55 (fun H locs hP hD hS => ?_)
  have hP : va_P (dC, dI) vwCl [(a1, .inl (cI, 250, .inl (upd (fun _ => 0) 0 0))), (a2, .inl (cI, 250, .inl (upd (fun _ => 0) 0 0))), (a0, .inr (4, [.int 0, .int 0, .ref a3, .ref a4, .ref a5, .ref a6, .int 0, .ref a7, .ref a8, .ref a9, .ref a10, .int 0, .int 1, .int 1, .int 0, .ref a1, .ref a2, .ref a11, .ref a12, .ref a13]))] H := hP
  have hD : va_D A [(a1, .inl (cI, 250, .inl (upd (fun _ => 0) 0 0))), (a2, .inl (cI, 250, .inl (upd (fun _ => 0) 0 0))), (a0, .inr (4, [.int 0, .int 0, .ref a3, .ref a4, .ref a5, .ref a6, .int 0, .ref a7, .ref a8, .ref a9, .ref a10, .int 0, .int 1, .int 1, .int 0, .ref a1, .ref a2, .ref a11, .ref a12, .ref a13]))] := hD
  refine lv_iconst (v := 1) hx hb dX4_add_58 (by decide) ?_
  exact xr_z hx hb hr hlocks hP hD hS [0, 1, 2] rfl (by decide) rfl (Nat.le_of_ble_eq_true rfl) (Nat.le_of_ble_eq_true rfl) dX4_add_59
set_option maxHeartbeats 4000000 in
set_option maxRecDepth 100000 in
theorem kX4_choose_0 (l : Launch) (hfl : l.stackTraces = false) (dC : Nat → ClassId) (dI : Nat → Nat → Nat) (cI cZ cJ cD : ClassId) (a0 a1 a2 a3 a4 a5 a6 a7 a8 a9 a10 a11 a12 a13 : Nat) (sz : Nat) : Met l yX4_choose (ws_ yX4_choose cX4_choose 7 none) (rm_ 1 0 0) (PC (dC, dI) (tyL cI cZ cJ cD) [(a0, .inr (4, [.int 0, .int 0, .ref a1, .ref a2, .ref a3, .ref a4, .int 0, .ref a5, .ref a6, .ref a7, .ref a8, .int 0, .int 1, .int 1, .int 1, .ref a9, .ref a10, .ref a11, .ref a12, .ref a13]))] sz [.ref a0, .int 0]) (QR (dC, dI) [(a0, .inr (4, [.int 0, .int 0, .ref a1, .ref a2, .ref a3, .ref a4, .int 0, .ref a5, .ref a6, .ref a7, .ref a8, .int 0, .int 1, .int 1, .int 1, .ref a9, .ref a10, .ref a11, .ref a12, .ref a13]))] none (va_A [(a0, .inr (4, [.int 0, .int 0, .ref a1, .ref a2, .ref a3, .ref a4, .int 0, .ref a5, .ref a6, .ref a7, .ref a8, .int 0, .int 1, .int 1, .int 1, .ref a9, .ref a10, .ref a11, .ref a12, .ref a13]))] sz)) 0 0 (va_A [(a0, .inr (4, [.int 0, .int 0, .ref a1, .ref a2, .ref a3, .ref a4, .int 0, .ref a5, .ref a6, .ref a7, .ref a8, .int 0, .int 1, .int 1, .int 1, .ref a9, .ref a10, .ref a11, .ref a12, .ref a13]))] sz) := by
  refine xm_of (QQ := QR (dC, dI) [(a0, .inr (4, [.int 0, .int 0, .ref a1, .ref a2, .ref a3, .ref a4, .int 0, .ref a5, .ref a6, .ref a7, .ref a8, .int 0, .int 1, .int 1, .int 1, .ref a9, .ref a10, .ref a11, .ref a12, .ref a13]))] none) (by decide +kernel) (Nat.le_of_ble_eq_true rfl) ?_
  intro p e s m below meth c A ls hx hb hr hml hown hts hlocks hin hK hP hD hE hA hS hl
  have hown : s.vm.findClass RX4 = some m.cls := hown
  have hl : lv_has ls 7 [(0, .ref a0), (1, .int 0)] := hl
  have hP : va_P (dC, dI) vwCl [(a0, .inr (4, [.int 0, .int 0, .ref a1, .ref a2, .ref a3, .ref a4, .int 0, .ref a5, .ref a6, .ref a7, .ref a8, .int 0, .int 1, .int 1, .int 1, .ref a9, .ref a10, .ref a11, .ref a12, .ref a13]))] s.heap := hP
  refine lv_iconst (v := 1) hx hb dX4_choose_0 (by decide) ?_
  refine lv_iload_n hx hb dX4_choose_1 rfl (lv_at hl 1 rfl) ?_
  refine lv_iconst (v := 2) hx hb dX4_choose_2 (by decide) ?_
  refine lv_irem hx hb dX4_choose_3 (by decide) ?_
  refine tI (v := 0) (by decide +kernel) ?_
  refine lv_isub hx hb dX4_choose_4 ?_
  refine tI (v := 1) (by decide +kernel) ?_
  refine lv_istore_n (lv' := [(2, .int 1), (0, .ref a0), (1, .int 0)]) hx hb dX4_choose_5 rfl hl (by decide) rfl (fun ls hl => ?_)
  refine lv_iconst (v := 0) hx hb dX4_choose_6 (by decide) ?_
  refine lv_istore_n (lv' := [(3, .int 0), (2, .int 1), (0, .ref a0), (1, .int 0)]) hx hb dX4_choose_7 rfl hl (by decide) rfl (fun ls hl => ?_)
  refine lv_iload_n hx hb dX4_choose_8 rfl (lv_at hl 0 rfl) ?_
  refine lv_aload_n hx hb dX4_choose_9 rfl (lv_at hl 2 rfl) ?_
  refine va_get (D := (dC, dI)) (ci := 4) (v := .int 0) (C := RX4) (T := TX4) (N := 20) hx hb hts inX4 hown hK hP 0 rfl rfl 1 (by decide) (hts _ q688) (fun _ h9 => h9) rfl dX4_choose_10 ?_
  refine lv_icmp_ge (tgt := 134) hx hb dX4_choose_13 (by decide) (fun _ => ?_) (fun h9 => absurd (by decide) h9)
  exact xr_v hx hb hr hlocks hP hD hS [0] rfl (by decide) (Nat.le_of_ble_eq_true rfl) (Nat.le_of_ble_eq_true rfl) dX4_choose_134
set_option maxHeartbeats 4000000 in
set_option maxRecDepth 100000 in
theorem kX4_follows_0 (l : Launch) (hfl : l.stackTraces = false) (dC : Nat → ClassId) (dI : Nat → Nat → Nat) (cI cZ cJ cD : ClassId) (a0 a1 a2 a3 a4 a5 a6 a7 a8 a9 a10 a11 a12 a13 : Nat) (sz : Nat) : Met l yX4_follows (ws_ yX4_follows cX4_follows 5 (some .boolean)) (rm_ 1 0 0) (PC (dC, dI) (tyL cI cZ cJ cD) [(a0, .inr (4, [.int 0, .int 0, .ref a1, .ref a2, .ref a3, .ref a4, .int 0, .ref a5, .ref a6, .ref a7, .ref a8, .int 0, .int 1, .int 1, .int 1, .ref a9, .ref a10, .ref a11, .ref a12, .ref a13]))] sz [.ref a0, .int 0, .int 1]) (QR (dC, dI) [(a0, .inr (4, [.int 0, .int 0, .ref a1, .ref a2, .ref a3, .ref a4, .int 0, .ref a5, .ref a6, .ref a7, .ref a8, .int 0, .int 1, .int 1, .int 1, .ref a9, .ref a10, .ref a11, .ref a12, .ref a13]))] (some (.int 1)) (va_A [(a0, .inr (4, [.int 0, .int 0, .ref a1, .ref a2, .ref a3, .ref a4, .int 0, .ref a5, .ref a6, .ref a7, .ref a8, .int 0, .int 1, .int 1, .int 1, .ref a9, .ref a10, .ref a11, .ref a12, .ref a13]))] sz)) 0 0 (va_A [(a0, .inr (4, [.int 0, .int 0, .ref a1, .ref a2, .ref a3, .ref a4, .int 0, .ref a5, .ref a6, .ref a7, .ref a8, .int 0, .int 1, .int 1, .int 1, .ref a9, .ref a10, .ref a11, .ref a12, .ref a13]))] sz) := by
  refine xm_of (QQ := QR (dC, dI) [(a0, .inr (4, [.int 0, .int 0, .ref a1, .ref a2, .ref a3, .ref a4, .int 0, .ref a5, .ref a6, .ref a7, .ref a8, .int 0, .int 1, .int 1, .int 1, .ref a9, .ref a10, .ref a11, .ref a12, .ref a13]))] (some (.int 1))) (by decide +kernel) (Nat.le_of_ble_eq_true rfl) ?_
  intro p e s m below meth c A ls hx hb hr hml hown hts hlocks hin hK hP hD hE hA hS hl
  have hown : s.vm.findClass RX4 = some m.cls := hown
  have hl : lv_has ls 5 [(0, .ref a0), (1, .int 0), (2, .int 1)] := hl
  have hP : va_P (dC, dI) vwCl [(a0, .inr (4, [.int 0, .int 0, .ref a1, .ref a2, .ref a3, .ref a4, .int 0, .ref a5, .ref a6, .ref a7, .ref a8, .int 0, .int 1, .int 1, .int 1, .ref a9, .ref a10, .ref a11, .ref a12, .ref a13]))] s.heap := hP
  refine lv_iload_n hx hb dX4_follows_0 rfl (lv_at hl 1 rfl) ?_
  refine lv_iconst (v := 2) hx hb dX4_follows_1 (by decide) ?_
  refine lv_irem hx hb dX4_follows_2 (by decide) ?_
  refine tI (v := 0) (by decide +kernel) ?_
  refine lv_iload_n hx hb dX4_follows_3 rfl (lv_at hl 2 rfl) ?_
  refine lv_iconst (v := 2) hx hb dX4_follows_4 (by decide) ?_
  refine lv_irem hx hb dX4_follows_5 (by decide) ?_
  refine tI (v := 1) (by decide +kernel) ?_
  refine lv_icmp_eq (tgt := 25) hx hb dX4_follows_6 (by decide) (fun h9 => absurd h9 (by decide)) (fun _ => ?_)
  refine lv_iload_n hx hb dX4_follows_9 rfl (lv_at hl 1 rfl) ?_
  refine lv_iconst (v := 2) hx hb dX4_follows_10 (by decide) ?_
  refine lv_irem hx hb dX4_follows_11 (by decide) ?_
  refine tI (v := 0) (by decide +kernel) ?_
  refine lv_iconst (v := 1) hx hb dX4_follows_12 (by decide) ?_
  refine lv_icmp_ne (tgt := 27) hx hb dX4_follows_13 (by decide) (fun _ => ?_) (fun h9 => absurd h9 (by decide))
  refine lv_iconst (v := 1) hx hb dX4_follows_27 (by decide) ?_
  refine lv_istore_n (lv' := [(3, .int 1), (0, .ref a0), (1, .int 0), (2, .int 1)]) hx hb dX4_follows_28 rfl hl (by decide) rfl (fun ls hl => ?_)
  refine lv_iconst (v := 0) hx hb dX4_follows_29 (by decide) ?_
  refine lv_istore (lv' := [(4, .int 0), (3, .int 1), (0, .ref a0), (1, .int 0), (2, .int 1)]) hx hb dX4_follows_30 hl (by decide) rfl (fun ls hl => ?_)
  refine lv_iload hx hb dX4_follows_32 (lv_at hl 0 rfl) ?_
  refine lv_aload_n hx hb dX4_follows_34 rfl (lv_at hl 2 rfl) ?_
  refine va_get (D := (dC, dI)) (ci := 4) (v := .int 0) (C := RX4) (T := TX4) (N := 20) hx hb hts inX4 hown hK hP 0 rfl rfl 1 (by decide) (hts _ q688) (fun _ h9 => h9) rfl dX4_follows_35 ?_
  refine lv_icmp_ge (tgt := 68) hx hb dX4_follows_38 (by decide) (fun _ => ?_) (fun h9 => absurd (by decide) h9)
  refine lv_iload_n hx hb dX4_follows_68 rfl (lv_at hl 1 rfl) ?_
  exact xr_z hx hb hr hlocks hP hD hS [0] rfl (by decide) rfl (Nat.le_of_ble_eq_true rfl) (Nat.le_of_ble_eq_true rfl) dX4_follows_69
set_option maxHeartbeats 4000000 in
set_option maxRecDepth 100000 in
theorem kX4_isAllowed_1 (l : Launch) (hfl : l.stackTraces = false) (dC : Nat → ClassId) (dI : Nat → Nat → Nat) (cI cZ cJ cD : ClassId) (a0 a1 a2 a3 a4 a5 a6 a7 a8 a9 a10 a11 a12 a13 : Nat) (sz : Nat) : Met l yX4_isAllowed (ws_ yX4_isAllowed cX4_isAllowed 3 (some .boolean)) (rm_ 1 0 0) (PC (dC, dI) (tyL cI cZ cJ cD) [(a0, .inr (4, [.int 0, .int 0, .ref a1, .ref a2, .ref a3, .ref a4, .int 0, .ref a5, .ref a6, .ref a7, .ref a8, .int 0, .int 1, .int 1, .int 1, .ref a9, .ref a10, .ref a11, .ref a12, .ref a13]))] sz [.ref a0, .int 1]) (QR (dC, dI) [(a0, .inr (4, [.int 0, .int 0, .ref a1, .ref a2, .ref a3, .ref a4, .int 0, .ref a5, .ref a6, .ref a7, .ref a8, .int 0, .int 1, .int 1, .int 1, .ref a9, .ref a10, .ref a11, .ref a12, .ref a13]))] (some (.int 1)) (va_A [(a0, .inr (4, [.int 0, .int 0, .ref a1, .ref a2, .ref a3, .ref a4, .int 0, .ref a5, .ref a6, .ref a7, .ref a8, .int 0, .int 1, .int 1, .int 1, .ref a9, .ref a10, .ref a11, .ref a12, .ref a13]))] sz)) 0 0 (va_A [(a0, .inr (4, [.int 0, .int 0, .ref a1, .ref a2, .ref a3, .ref a4, .int 0, .ref a5, .ref a6, .ref a7, .ref a8, .int 0, .int 1, .int 1, .int 1, .ref a9, .ref a10, .ref a11, .ref a12, .ref a13]))] sz) := by
  refine xm_of (QQ := QR (dC, dI) [(a0, .inr (4, [.int 0, .int 0, .ref a1, .ref a2, .ref a3, .ref a4, .int 0, .ref a5, .ref a6, .ref a7, .ref a8, .int 0, .int 1, .int 1, .int 1, .ref a9, .ref a10, .ref a11, .ref a12, .ref a13]))] (some (.int 1))) (by decide +kernel) (Nat.le_of_ble_eq_true rfl) ?_
  intro p e s m below meth c A ls hx hb hr hml hown hts hlocks hin hK hP hD hE hA hS hl
  have hown : s.vm.findClass RX4 = some m.cls := hown
  have hl : lv_has ls 3 [(0, .ref a0), (1, .int 1)] := hl
  have hP : va_P (dC, dI) vwCl [(a0, .inr (4, [.int 0, .int 0, .ref a1, .ref a2, .ref a3, .ref a4, .int 0, .ref a5, .ref a6, .ref a7, .ref a8, .int 0, .int 1, .int 1, .int 1, .ref a9, .ref a10, .ref a11, .ref a12, .ref a13]))] s.heap := hP
  refine lv_iconst (v := 0) hx hb dX4_isAllowed_0 (by decide) ?_
  refine lv_istore_n (lv' := [(2, .int 0), (0, .ref a0), (1, .int 1)]) hx hb dX4_isAllowed_1 rfl hl (by decide) rfl (fun ls hl => ?_)
  refine lv_iload_n hx hb dX4_isAllowed_2 rfl (lv_at hl 0 rfl) ?_
  refine lv_aload_n hx hb dX4_isAllowed_3 rfl (lv_at hl 1 rfl) ?_
  refine va_get (D := (dC, dI)) (ci := 4) (v := .int 0) (C := RX4) (T := TX4) (N := 20) hx hb hts inX4 hown hK hP 0 rfl rfl 1 (by decide) (hts _ q688) (fun _ h9 => h9) rfl dX4_isAllowed_4 ?_
  refine lv_icmp_ge (tgt := 32) hx hb dX4_isAllowed_7 (by decide) (fun _ => ?_) (fun h9 => absurd (by decide) h9)
  refine lv_iconst (v := 0) hx hb dX4_isAllowed_32 (by decide) ?_
  refine lv_istore_n (lv' := [(2, .int 0), (0, .ref a0), (1, .int 1)]) hx hb dX4_isAllowed_33 rfl hl (by decide) rfl (fun ls hl => ?_)
  refine lv_iload_n hx hb dX4_isAllowed_34 rfl (lv_at hl 0 rfl) ?_
  refine lv_aload_n hx hb dX4_isAllowed_35 rfl (lv_at hl 1 rfl) ?_
  refine va_get (D := (dC, dI)) (ci := 4) (v := .int 0) (C := RX4) (T := TX4) (N := 20) hx hb hts inX4 hown hK hP 0 rfl rfl 6 (by decide) (hts _ q693) (fun _ h9 => h9) rfl dX4_isAllowed_36 ?_
  refine lv_icmp_ge (tgt := 59) hx hb dX4_isAllowed_39 (by decide) (fun _ => ?_) (fun h9 => absurd (by decide) h9)
  refine lv_iconst (v := 1) hx hb dX4_isAllowed_59 (by decide) ?_
  exact xr_z hx hb hr hlocks hP hD hS [0] rfl (by decide) rfl (Nat.le_of_ble_eq_true rfl) (Nat.le_of_ble_eq_true rfl) dX4_isAllowed_60
set_option maxHeartbeats 4000000 in
set_option maxRecDepth 100000 in
theorem kX4_numberOf_1 (l : Launch) (hfl : l.stackTraces = false) (dC : Nat → ClassId) (dI : Nat → Nat → Nat) (cI cZ cJ cD : ClassId) (a0 a1 a2 a3 a4 a5 a6 a7 a8 a9 a10 a11 a12 a13 : Nat) (sz : Nat) : Met l yX4_numberOf (ws_ yX4_numberOf cX4_numberOf 3 (some .int)) (rm_ 1 0 0) (PC (dC, dI) (tyL cI cZ cJ cD) [(a1, .inl (cI, 250, .inl (upd (fun _ => 0) 0 0))), (a0, .inr (4, [.int 0, .int 0, .ref a2, .ref a3, .ref a4, .ref a5, .int 0, .ref a6, .ref a7, .ref a8, .ref a9, .int 0, .int 1, .int 1, .int 1, .ref a1, .ref a10, .ref a11, .ref a12, .ref a13]))] sz [.ref a0, .int 1]) (QR (dC, dI) [(a1, .inl (cI, 250, .inl (upd (fun _ => 0) 0 0))), (a0, .inr (4, [.int 0, .int 0, .ref a2, .ref a3, .ref a4, .ref a5, .int 0, .ref a6, .ref a7, .ref a8, .ref a9, .int 0, .int 1, .int 1, .int 1, .ref a1, .ref a10, .ref a11, .ref a12, .ref a13]))] (some (.int (-1))) (va_A [(a1, .inl (cI, 250, .inl (upd (fun _ => 0) 0 0))), (a0, .inr (4, [.int 0, .int 0, .ref a2, .ref a3, .ref a4, .ref a5, .int 0, .ref a6, .ref a7, .ref a8, .ref a9, .int 0, .int 1, .int 1, .int 1, .ref a1, .ref a10, .ref a11, .ref a12, .ref a13]))] sz)) 0 0 (va_A [(a1, .inl (cI, 250, .inl (upd (fun _ => 0) 0 0))), (a0, .inr (4, [.int 0, .int 0, .ref a2, .ref a3, .ref a4, .ref a5, .int 0, .ref a6, .ref a7, .ref a8, .ref a9, .int 0, .int 1, .int 1, .int 1, .ref a1, .ref a10, .ref a11, .ref a12, .ref a13]))] sz) := by
  refine xm_of (QQ := QR (dC, dI) [(a1, .inl (cI, 250, .inl (upd (fun _ => 0) 0 0))), (a0, .inr (4, [.int 0, .int 0, .ref a2, .ref a3, .ref a4, .ref a5, .int 0, .ref a6, .ref a7, .ref a8, .ref a9, .int 0, .int 1, .int 1, .int 1, .ref a1, .ref a10, .ref a11, .ref a12, .ref a13]))] (some (.int (-1)))) (by decide +kernel) (Nat.le_of_ble_eq_true rfl) ?_
  intro p e s m below meth c A ls hx hb hr hml hown hts hlocks hin hK hP hD hE hA hS hl
  have hown : s.vm.findClass RX4 = some m.cls := hown
  have hl : lv_has ls 3 [(0, .ref a0), (1, .int 1)] := hl
  have hP : va_P (dC, dI) vwCl [(a1, .inl (cI, 250, .inl (upd (fun _ => 0) 0 0))), (a0, .inr (4, [.int 0, .int 0, .ref a2, .ref a3, .ref a4, .ref a5, .int 0, .ref a6, .ref a7, .ref a8, .ref a9, .int 0, .int 1, .int 1, .int 1, .ref a1, .ref a10, .ref a11, .ref a12, .ref a13]))] s.heap := hP
  refine lv_iconst (v := 0) hx hb dX4_numberOf_0 (by decide) ?_
  refine lv_istore_n (lv' := [(2, .int 0), (0, .ref a0), (1, .int 1)]) hx hb dX4_numberOf_1 rfl hl (by decide) rfl (fun ls hl => ?_)
  refine lv_iload_n hx hb dX4_numberOf_2 rfl (lv_at hl 0 rfl) ?_
  refine lv_aload_n hx hb dX4_numberOf_3 rfl (lv_at hl 1 rfl) ?_
  refine va_get (D := (dC, dI)) (ci := 4) (v := .int 1) (C := RX4) (T := TX4) (N := 20) hx hb hts inX4 hown hK hP 1 rfl rfl 13 (by decide) (hts _ q700) (fun _ h9 => h9) rfl dX4_numberOf_4 ?_
  refine lv_icmp_ge (tgt := 28) hx hb dX4_numberOf_7 (by decide) (fun h9 => absurd h9 (by decide)) (fun _ => ?_)
  refine lv_aload_n hx hb dX4_numberOf_10 rfl (lv_at hl 1 rfl) ?_
  refine va_get (D := (dC, dI)) (ci := 4) (v := .ref a1) (C := RX4) (T := TX4) (N := 20) hx hb hts inX4 hown hK hP 1 rfl rfl 15 (by decide) (hts _ q702) (fun _ h9 => h9) rfl dX4_numberOf_11 ?_
  refine lv_iload_n hx hb dX4_numberOf_14 rfl (lv_at hl 0 rfl) ?_
  refine xa_iald (k := 0) (v := 0) hx hb hK hP 0 0 rfl rfl (by decide) (by decide +kernel) (Nat.le_of_ble_eq_true rfl) rfl dX4_numberOf_15 ?_
  refine lv_iload_n hx hb dX4_numberOf_16 rfl (lv_at hl 2 rfl) ?_
  refine lv_icmp_ne (tgt := 22) hx hb dX4_numberOf_17 (by decide) (fun _ => ?_) (fun h9 => absurd h9 (by decide))
  refine lv_iinc (v := 1) (lv' := [(2, .int 1), (0, .ref a0), (1, .int 1)]) hx hb dX4_numberOf_22 hl (k := 0) rfl (by decide +kernel) (by decide) rfl (fun ls hl => ?_)
  refine lv_goto (tgt := 2) hx hb dX4_numberOf_25 (by decide) ?_
  refine lv_iload_n hx hb dX4_numberOf_2 rfl (lv_at hl 0 rfl) ?_
  refine lv_aload_n hx hb dX4_numberOf_3 rfl (lv_at hl 1 rfl) ?_
  refine va_get (D := (dC, dI)) (ci := 4) (v := .int 1) (C := RX4) (T := TX4) (N := 20) hx hb hts inX4 hown hK hP 1 rfl rfl 13 (by decide) (hts _ q700) (fun _ h9 => h9) rfl dX4_numberOf_4 ?_
  refine lv_icmp_ge (tgt := 28) hx hb dX4_numberOf_7 (by decide) (fun _ => ?_) (fun h9 => absurd (by decide) h9)
  refine lv_iconst (v := (-1)) hx hb dX4_numberOf_28 (by decide) ?_
  exact xr_i hx hb hr hlocks hP hD hS [0, 1] rfl (by decide) (Nat.le_of_ble_eq_true rfl) (Nat.le_of_ble_eq_true rfl) dX4_numberOf_29
set_option maxHeartbeats 4000000 in
set_option maxRecDepth 100000 in
theorem kX4_add_1 (l : Launch) (hfl : l.stackTraces = false) (dC : Nat → ClassId) (dI : Nat → Nat → Nat) (cI cZ cJ cD : ClassId) (a0 a1 a2 a3 a4 a5 a6 a7 a8 a9 a10 a11 a12 a13 : Nat) (sz : Nat) : Met l yX4_add (ws_ yX4_add cX4_add 3 (some .boolean)) (rm_ 2 0 0) (PC (dC, dI) (tyL cI cZ cJ cD) [(a1, .inl (cI, 250, .inl (upd (fun _ => 0) 0 0))), (a2, .inl (cI, 250, .inl (upd (fun _ => 0) 0 0))), (a0, .inr (4, [.int 0, .int 0, .ref a3, .ref a4, .ref a5, .ref a6, .int 0, .ref a7, .ref a8, .ref a9, .ref a10, .int 0, .int 1, .int 1, .int 1, .ref a1, .ref a2, .ref a11, .ref a12, .ref a13]))] sz [.ref a0, .int 1, .int 1]) (QR (dC, dI) [(a1, .inl (cI, 250, .inl (upd (upd (fun _ => 0) 0 0) 1 1))), (a2, .inl (cI, 250, .inl (upd (upd (fun _ => 0) 0 0) 1 1))), (a0, .inr (4, [.int 0, .int 0, .ref a3, .ref a4, .ref a5, .ref a6, .int 0, .ref a7, .ref a8, .ref a9, .ref a10, .int 0, .int 1, .int 2, .int 1, .ref a1, .ref a2, .ref a11, .ref a12, .ref a13]))] (some (.int 1)) (va_A [(a1, .inl (cI, 250, .inl (upd (fun _ => 0) 0 0))), (a2, .inl (cI, 250, .inl (upd (fun _ => 0) 0 0))), (a0, .inr (4, [.int 0, .int 0, .ref a3, .ref a4, .ref a5, .ref a6, .int 0, .ref a7, .ref a8, .ref a9, .ref a10, .int 0, .int 1, .int 1, .int 1, .ref a1, .ref a2, .ref a11, .ref a12, .ref a13]))] sz)) 0 0 (va_A [(a1, .inl (cI, 250, .inl (upd (fun _ => 0) 0 0))), (a2, .inl (cI, 250, .inl (upd (fun _ => 0) 0 0))), (a0, .inr (4, [.int 0, .int 0, .ref a3, .ref a4, .ref a5, .ref a6, .int 0, .ref a7, .ref a8, .ref a9, .ref a10, .int 0, .int 1, .int 1, .int 1, .ref a1, .ref a2, .ref a11, .ref a12, .ref a13]))] sz) := by
  refine xm_of (QQ := QR (dC, dI) [(a1, .inl (cI, 250, .inl (upd (upd (fun _ => 0) 0 0) 1 1))), (a2, .inl (cI, 250, .inl (upd (upd (fun _ => 0) 0 0) 1 1))), (a0, .inr (4, [.int 0, .int 0, .ref a3, .ref a4, .ref a5, .ref a6, .int 0, .ref a7, .ref a8, .ref a9, .ref a10, .int 0, .int 1, .int 2, .int 1, .ref a1, .ref a2, .ref a11, .ref a12, .ref a13]))] (some (.int 1))) (by decide +kernel) (Nat.le_of_ble_eq_true rfl) ?_
  intro p e s m below meth c A ls hx hb hr hml hown hts hlocks hin hK hP hD hE hA hS hl
  have hown : s.vm.findClass RX4 = some m.cls := hown
  have hl : lv_has ls 3 [(0, .ref a0), (1, .int 1), (2, .int 1)] := hl
  have hP : va_P (dC, dI) vwCl [(a1, .inl (cI, 250, .inl (upd (fun _ => 0) 0 0))), (a2, .inl (cI, 250, .inl (upd (fun _ => 0) 0 0))), (a0, .inr (4, [.int 0, .int 0, .ref a3, .ref a4, .ref a5, .ref a6, .int 0, .ref a7, .ref a8, .ref a9, .ref a10, .int 0, .int 1, .int 1, .int 1, .ref a1, .ref a2, .ref a11, .ref a12, .ref a13]))] s.heap := hP
  refine lv_aload_n hx hb dX4_add_0 rfl (lv_at hl 0 rfl) ?_
  refine lv_iload_n hx hb dX4_add_1 rfl (lv_at hl 1 rfl) ?_
  refine xc_V (b := a0) (wc := [(a1, .inl (cI, 250, .inl (upd (fun _ => 0) 0 0))), (a0, .inr (4, [.int 0, .int 0, .ref a3, .ref a4, .ref a5, .ref a6, .int 0, .ref a7, .ref a8, .ref a9, .ref a10, .int 0, .int 1, .int 1, .int 1, .ref a1, .ref a2, .ref a11, .ref a12, .ref a13]))]) (As := [.int 1]) (rest := []) (wr := [(a2, .inl (cI, 250, .inl (upd (fun _ => 0) 0 0)))]) ⟨hx, hb, hml, hown, hts⟩ (kX4_numberOf_1 l hfl dC dI cI cZ cJ cD a0 a1 a3 a4 a5 a6 a7 a8 a9 a10 a2 a11 a12 a13 _) q841 okX4_numberOf hP hD hK hE hS hA [0, 2] [1] rfl rfl (by decide) (by decide) (by decide) (ci := 4) rfl 2 rfl rfl rfl hl.1 rfl (Nat.le_of_ble_eq_true rfl) ⟨rfl, rfl⟩ ⟨Nat.le_of_ble_eq_true rfl, Nat.le_of_ble_eq_true rfl⟩ ⟨Nat.le_of_ble_eq_true rfl, Nat.le_of_ble_eq_true rfl⟩ dX4_add_2 (fun H locs hP hD hS => ?_)
  have hP : va_P (dC, dI) vwCl [(a2, .inl (cI, 250, .inl (upd (fun _ => 0) 0 0))), (a1, .inl (cI, 250, .inl (upd (fun _ => 0) 0 0))), (a0, .inr (4, [.int 0, .int 0, .ref a3, .ref a4, .ref a5, .ref a6, .int 0, .ref a7, .ref a8, .ref a9, .ref a10, .int 0, .int 1, .int 1, .int 1, .ref a1, .ref a2, .ref a11, .ref a12, .ref a13]))] H := hP
  have hD : va_D A [(a2, .inl (cI, 250, .inl (upd (fun _ => 0) 0 0))), (a1, .inl (cI, 250, .inl (upd (fun _ => 0) 0 0))), (a0, .inr (4, [.int 0, .int 0, .ref a3, .ref a4, .ref a5, .ref a6, .int 0, .ref a7, .ref a8, .ref a9, .ref a10, .int 0, .int 1, .int 1, .int 1, .ref a1, .ref a2, .ref a11, .ref a12, .ref a13]))] := hD
  refine W.eq (g2 := F0 m 5 ls [.int (-1)]) rfl ?_
  refine lv_iconst (v := (-1)) hx hb dX4_add_5 (by decide) ?_
  refine lv_icmp_eq (tgt := 11) hx hb dX4_add_6 (by decide) (fun _ => ?_) (fun h9 => absurd (by decide) h9)
  refine lv_aload_n hx hb dX4_add_11 rfl (lv_at hl 0 rfl) ?_
  refine va_get (D := (dC, dI)) (ci := 4) (v := .int 1) (C := RX4) (T := TX4) (N := 20) hx hb hts inX4 hown hK hP 2 rfl rfl 13 (by decide) (hts _ q700) (fun _ h9 => h9) rfl dX4_add_12 ?_
  refine lv_sipush (v := 250) hx hb dX4_add_15 (by decide) ?_
  refine lv_icmp_ne (tgt := 28) hx hb dX4_add_18 (by decide) (fun _ => ?_) (fun h9 => absurd h9 (by decide))
  refine lv_aload_n hx hb dX4_add_28 rfl (lv_at hl 0 rfl) ?_
  refine va_get (D := (dC, dI)) (ci := 4) (v := .ref a1) (C := RX4) (T := TX4) (N := 20) hx hb hts inX4 hown hK hP 2 rfl rfl 15 (by decide) (hts _ q702) (fun _ h9 => h9) rfl dX4_add_29 ?_
  refine lv_aload_n hx hb dX4_add_32 rfl (lv_at hl 0 rfl) ?_
  refine va_get (D := (dC, dI)) (ci := 4) (v := .int 1) (C := RX4) (T := TX4) (N := 20) hx hb hts inX4 hown hK hP 2 rfl rfl 13 (by decide) (hts _ q700) (fun _ h9 => h9) rfl dX4_add_33 ?_
  refine lv_iload_n hx hb dX4_add_36 rfl (lv_at hl 1 rfl) ?_
  refine xa_iast (k := 1) (w1 := [(a2, .inl (cI, 250, .inl (upd (fun _ => 0) 0 0))), (a1, .inl (cI, 250, .inl (upd (upd (fun _ => 0) 0 0) 1 1))), (a0, .inr (4, [.int 0, .int 0, .ref a3, .ref a4, .ref a5, .ref a6, .int 0, .ref a7, .ref a8, .ref a9, .ref a10, .int 0, .int 1, .int 1, .int 1, .ref a1, .ref a2, .ref a11, .ref a12, .ref a13]))]) hx hb hK hP hD hS 1 0 rfl rfl (by decide) (by decide +kernel) (Nat.le_of_ble_eq_true rfl) rfl dX4_add_37 (fun H locs hP hD hS => ?_)
  refine lv_aload_n hx hb dX4_add_38 rfl (lv_at hl 0 rfl) ?_
  refine va_get (D := (dC, dI)) (ci := 4) (v := .ref a2) (C := RX4) (T := TX4) (N := 20) hx hb hts inX4 hown hK hP 2 rfl rfl 16 (by decide) (hts _ q703) (fun _ h9 => h9) rfl dX4_add_39 ?_
  refine lv_aload_n hx hb dX4_add_42 rfl (lv_at hl 0 rfl) ?_
  refine va_get (D := (dC, dI)) (ci := 4) (v := .int 1) (C := RX4) (T := TX4) (N := 20) hx hb hts inX4 hown hK hP 2 rfl rfl 13 (by decide) (hts _ q700) (fun _ h9 => h9) rfl dX4_add_43 ?_
  refine lv_iload_n hx hb dX4_add_46 rfl (lv_at hl 2 rfl) ?_
  refine xa_iast (k := 1) (w1 := [(a2, .inl (cI, 250, .inl (upd (upd (fun _ => 0) 0 0) 1 1))), (a1, .inl (cI, 250, .inl (upd (upd (fun _ => 0) 0 0) 1 1))), (a0, .inr (4, [.int 0, .int 0, .ref a3, .ref a4, .ref a5, .ref a6, .int 0, .ref a7, .ref a8, .ref a9, .ref a10, .int 0, .int 1, .int 1, .int 1, .ref a1, .ref a2, .ref a11, .ref a12, .ref a13]))]) hx hb hK hP hD hS 0 0 rfl rfl (by decide) (by decide +kernel) (Nat.le_of_ble_eq_true rfl) rfl dX4_add_47 (fun H locs hP hD hS => ?_)
  refine lv_aload_n hx hb dX4_add_48 rfl (lv_at hl 0 rfl) ?_
  refine lv_dup hx hb dX4_add_49 rfl ?_
  refine va_get (D := (dC, dI)) (ci := 4) (v := .int 1) (C := RX4) (T := TX4) (N := 20) hx hb hts inX4 hown hK hP 2 rfl rfl 13 (by decide) (hts _ q700) (fun _ h9 => h9) rfl dX4_add_50 ?_
  refine lv_iconst (v := 1) hx hb dX4_add_53 (by decide) ?_
  refine lv_iadd hx hb dX4_add_54 ?_
  refine tI (v := 2) (by decide +kernel) ?_
  refine va_put (D := (dC, dI)) (ci := 4) (v := .int 2) (ty := .int) (C := RX4) (T := TX4) (N := 20) hx hb hts inX4 tyX4 tyX4_ok nmX4 hown hK hP hD hS 2 rfl rfl 13 (by decide) (hts _ q700) (fun _ h9 => h9) rfl (by decide +kernel) rfl rfl (Nat.le_of_ble_eq_true rfl) dX4_add_55 (fun H locs hP hD hS => ?_)
  have hP : va_P (dC, dI) vwCl [(a2, .inl (cI, 250, .inl (upd (upd (fun _ => 0) 0 0) 1 1))), (a1, .inl (cI, 250, .inl (upd (upd (fun _ => 0) 0 0) 1 1))), (a0, .inr (4, [.int 0, .int 0, .ref a3, .ref a4, .ref a5, .ref a6, .int 0, .ref a7, .ref a8, .ref a9, .ref a10, .int 0, .int 1, .int 2, .int 1, .ref a1, .ref a2, .ref a11, .ref a12, .ref a13]))] H := hP
  have hD : va_D A [(a2, .inl (cI, 250, .inl (upd (upd (fun _ => 0) 0 0) 1 1))), (a1, .inl (cI, 250, .inl (upd (upd (fun _ => 0) 0 0) 1 1))), (a0, .inr (4, [.int 0, .int 0, .ref a3, .ref a4, .ref a5, .ref a6, .int 0, .ref a7, .ref a8, .ref a9, .ref a10, .int 0, .int 1, .int 2, .int 1, .ref a1, .ref a2, .ref a11, .ref a12, .ref a13]))] := hD
  refine lv_iconst (v := 1) hx hb dX4_add_58 (by decide) ?_
  exact xr_z hx hb hr hlocks hP hD hS [1, 0, 2] rfl (by decide) rfl (Nat.le_of_ble_eq_true rfl) (Nat.le_of_ble_eq_true rfl) dX4_add_59
set_option maxHeartbeats 4000000 in
set_option maxRecDepth 100000 in
theorem kX4_expand_0 (l : Launch) (hfl : l.stackTraces = false) (dC : Nat → ClassId) (dI : Nat → Nat → Nat) (cI cZ cJ cD : ClassId) (a0 a1 a2 a3 a4 a5 a6 a7 a8 a9 a10 a11 a12 a13 : Nat) (sz : Nat) : Met l yX4_expand (ws_ yX4_expand cX4_expand 8 (some .boolean)) (rm_ 3 0 0) (PC (dC, dI) (tyL cI cZ cJ cD) [(a1, .inl (cI, 250, .inl (upd (fun _ => 0) 0 0))), (a2, .inl (cI, 250, .inl (upd (fun _ => 0) 0 0))), (a0, .inr (4, [.int 0, .int 0, .ref a3, .ref a4, .ref a5, .ref a6, .int 0, .ref a7, .ref a8, .ref a9, .ref a10, .int 0, .int 1, .int 1, .int 1, .ref a1, .ref a2, .ref a11, .ref a12, .ref a13]))] sz [.ref a0, .int 0]) (QR (dC, dI) [(a1, .inl (cI, 250, .inl (upd (upd (fun _ => 0) 0 0) 1 1))), (a2, .inl (cI, 250, .inl (upd (upd (fun _ => 0) 0 0) 1 1))), (a0, .inr (4, [.int 0, .int 0, .ref a3, .ref a4, .ref a5, .ref a6, .int 0, .ref a7, .ref a8, .ref a9, .ref a10, .int 0, .int 1, .int 2, .int 1, .ref a1, .ref a2, .ref a11, .ref a12, .ref a13]))] (some (.int 1)) (va_A [(a1, .inl (cI, 250, .inl (upd (fun _ => 0) 0 0))), (a2, .inl (cI, 250, .inl (upd (fun _ => 0) 0 0))), (a0, .inr (4, [.int 0, .int 0, .ref a3, .ref a4, .ref a5, .ref a6, .int 0, .ref a7, .ref a8, .ref a9, .ref a10, .int 0, .int 1, .int 1, .int 1, .ref a1, .ref a2, .ref a11, .ref a12, .ref a13]))] sz)) 0 0 (va_A [(a1, .inl (cI, 250, .inl (upd (fun _ => 0) 0 0))), (a2, .inl (cI, 250, .inl (upd (fun _ => 0) 0 0))), (a0, .inr (4, [.int 0, .int 0, .ref a3, .ref a4, .ref a5, .ref a6, .int 0, .ref a7, .ref a8, .ref a9, .ref a10, .int 0, .int 1, .int 1, .int 1, .ref a1, .ref a2, .ref a11, .ref a12, .ref a13]))] sz) := by
  refine xm_of (QQ := QR (dC, dI) [(a1, .inl (cI, 250, .inl (upd (upd (fun _ => 0) 0 0) 1 1))), (a2, .inl (cI, 250, .inl (upd (upd (fun _ => 0) 0 0) 1 1))), (a0, .inr (4, [.int 0, .int 0, .ref a3, .ref a4, .ref a5, .ref a6, .int 0, .ref a7, .ref a8, .ref a9, .ref a10, .int 0, .int 1, .int 2, .int 1, .ref a1, .ref a2, .ref a11, .ref a12, .ref a13]))] (some (.int 1))) (by decide +kernel) (Nat.le_of_ble_eq_true rfl) ?_
  intro p e s m below meth c A ls hx hb hr hml hown hts hlocks hin hK hP hD hE hA hS hl
  have hown : s.vm.findClass RX4 = some m.cls := hown
  have hl : lv_has ls 8 [(0, .ref a0), (1, .int 0)] := hl
  have hP : va_P (dC, dI) vwCl [(a1, .inl (cI, 250, .inl (upd (fun _ => 0) 0 0))), (a2, .inl (cI, 250, .inl (upd (fun _ => 0) 0 0))), (a0, .inr (4, [.int 0, .int 0, .ref a3, .ref a4, .ref a5, .ref a6, .int 0, .ref a7, .ref a8, .ref a9, .ref a10, .int 0, .int 1, .int 1, .int 1, .ref a1, .ref a2, .ref a11, .ref a12, .ref a13]))] s.heap := hP
  refine lv_aload_n hx hb dX4_expand_0 rfl (lv_at hl 0 rfl) ?_
  refine lv_aload_n hx hb dX4_expand_1 rfl (lv_at hl 0 rfl) ?_
  refine va_get (D := (dC, dI)) (ci := 4) (v := .ref a1) (C := RX4) (T := TX4) (N := 20) hx hb hts inX4 hown hK hP 2 rfl rfl 15 (by decide) (hts _ q702) (fun _ h9 => h9) rfl dX4_expand_2 ?_
  refine lv_iload_n hx hb dX4_expand_5 rfl (lv_at hl 1 rfl) ?_
  refine xa_iald (k := 0) (v := 0) hx hb hK hP 0 0 rfl rfl (by decide) (by decide +kernel) (Nat.le_of_ble_eq_true rfl) rfl dX4_expand_6 ?_
  refine xc_V (b := a0) (wc := [(a0, .inr (4, [.int 0, .int 0, .ref a3, .ref a4, .ref a5, .ref a6, .int 0, .ref a7, .ref a8, .ref a9, .ref a10, .int 0, .int 1, .int 1, .int 1, .ref a1, .ref a2, .ref a11, .ref a12, .ref a13]))]) (As := [.int 0]) (rest := []) (wr := [(a1, .inl (cI, 250, .inl (upd (fun _ => 0) 0 0))), (a2, .inl (cI, 250, .inl (upd (fun _ => 0) 0 0)))]) ⟨hx, hb, hml, hown, hts⟩ (kX4_choose_0 l hfl dC dI cI cZ cJ cD a0 a3 a4 a5 a6 a7 a8 a9 a10 a1 a2 a11 a12 a13 _) q849 okX4_choose hP hD hK hE hS hA [2] [0, 1] rfl rfl (by decide) (by decide) (by decide) (ci := 4) rfl 2 rfl rfl rfl hl.1 rfl (Nat.le_of_ble_eq_true rfl) ⟨rfl, rfl⟩ ⟨Nat.le_of_ble_eq_true rfl, Nat.le_of_ble_eq_true rfl⟩ ⟨Nat.le_of_ble_eq_true rfl, Nat.le_of_ble_eq_true rfl⟩ dX4_expand_7 (fun H locs hP hD hS => ?_)
  have hP : va_P (dC, dI) vwCl [(a1, .inl (cI, 250, .inl (upd (fun _ => 0) 0 0))), (a2, .inl (cI, 250, .inl (upd (fun _ => 0) 0 0))), (a0, .inr (4, [.int 0, .int 0, .ref a3, .ref a4, .ref a5, .ref a6, .int 0, .ref a7, .ref a8, .ref a9, .ref a10, .int 0, .int 1, .int 1, .int 1, .ref a1, .ref a2, .ref a11, .ref a12, .ref a13]))] H := hP
  have hD : va_D A [(a1, .inl (cI, 250, .inl (upd (fun _ => 0) 0 0))), (a2, .inl (cI, 250, .inl (upd (fun _ => 0) 0 0))), (a0, .inr (4, [.int 0, .int 0, .ref a3, .ref a4, .ref a5, .ref a6, .int 0, .ref a7, .ref a8, .ref a9, .ref a10, .int 0, .int 1, .int 1, .int 1, .ref a1, .ref a2, .ref a11, .ref a12, .ref a13]))] := hD
  refine W.eq (g2 := F0 m 10 ls []) rfl ?_
  refine lv_iconst (v := 1) hx hb dX4_expand_10 (by decide) ?_
  refine lv_istore_n (lv' := [(2, .int 1), (0, .ref a0), (1, .int 0)]) hx hb dX4_expand_11 rfl hl (by decide) rfl (fun ls hl => ?_)
  refine lv_iconst (v := 0) hx hb dX4_expand_12 (by decide) ?_
  refine lv_istore_n (lv' := [(3, .int 0), (2, .int 1), (0, .ref a0), (1, .int 0)]) hx hb dX4_expand_13 rfl hl (by decide) rfl (fun ls hl => ?_)
  refine lv_iload_n hx hb dX4_expand_14 rfl (lv_at hl 0 rfl) ?_
  refine lv_aload_n hx hb dX4_expand_15 rfl (lv_at hl 2 rfl) ?_
  refine va_get (D := (dC, dI)) (ci := 4) (v := .int 0) (C := RX4) (T := TX4) (N := 20) hx hb hts inX4 hown hK hP 2 rfl rfl 1 (by decide) (hts _ q688) (fun _ h9 => h9) rfl dX4_expand_16 ?_
  refine lv_icmp_ge (tgt := 37) hx hb dX4_expand_19 (by decide) (fun _ => ?_) (fun h9 => absurd (by decide) h9)
  refine lv_iconst (v := 0) hx hb dX4_expand_37 (by decide) ?_
  refine lv_istore_n (lv' := [(3, .int 0), (2, .int 1), (0, .ref a0), (1, .int 0)]) hx hb dX4_expand_38 rfl hl (by decide) rfl (fun ls hl => ?_)
  refine lv_iload_n hx hb dX4_expand_39 rfl (lv_at hl 0 rfl) ?_
  refine lv_iload_n hx hb dX4_expand_40 rfl (lv_at hl 1 rfl) ?_
  refine lv_icmp_ge (tgt := 180) hx hb dX4_expand_41 (by decide) (fun h9 => absurd h9 (by decide)) (fun _ => ?_)
  refine lv_iconst (v := 0) hx hb dX4_expand_44 (by decide) ?_
  refine lv_istore (lv' := [(4, .int 0), (3, .int 0), (2, .int 1), (0, .ref a0), (1, .int 0)]) hx hb dX4_expand_45 hl (by decide) rfl (fun ls hl => ?_)
  refine lv_iload_n hx hb dX4_expand_47 rfl (lv_at hl 1 rfl) ?_
  refine lv_istore (lv' := [(5, .int 0), (4, .int 0), (3, .int 0), (2, .int 1), (0, .ref a0), (1, .int 0)]) hx hb dX4_expand_48 hl (by decide) rfl (fun ls hl => ?_)
  refine lv_iload_n hx hb dX4_expand_50 rfl (lv_at hl 3 rfl) ?_
  refine lv_istore (lv' := [(6, .int 1), (5, .int 0), (4, .int 0), (3, .int 0), (2, .int 1), (0, .ref a0), (1, .int 0)]) hx hb dX4_expand_51 hl (by decide) rfl (fun ls hl => ?_)
  refine lv_iconst (v := 0) hx hb dX4_expand_53 (by decide) ?_
  refine lv_istore (lv' := [(7, .int 0), (6, .int 1), (5, .int 0), (4, .int 0), (3, .int 0), (2, .int 1), (0, .ref a0), (1, .int 0)]) hx hb dX4_expand_54 hl (by decide) rfl (fun ls hl => ?_)
  refine lv_iload hx hb dX4_expand_56 (lv_at hl 0 rfl) ?_
  refine lv_aload_n hx hb dX4_expand_58 rfl (lv_at hl 6 rfl) ?_
  refine va_get (D := (dC, dI)) (ci := 4) (v := .int 0) (C := RX4) (T := TX4) (N := 20) hx hb hts inX4 hown hK hP 2 rfl rfl 1 (by decide) (hts _ q688) (fun _ h9 => h9) rfl dX4_expand_59 ?_
  refine lv_icmp_ge (tgt := 114) hx hb dX4_expand_62 (by decide) (fun _ => ?_) (fun h9 => absurd (by decide) h9)
  refine lv_iconst (v := 2) hx hb dX4_expand_114 (by decide) ?_
  refine lv_iload hx hb dX4_expand_115 (lv_at hl 3 rfl) ?_
  refine lv_imul hx hb dX4_expand_117 ?_
  refine tI (v := 0) (by decide +kernel) ?_
  refine lv_iconst (v := 1) hx hb dX4_expand_118 (by decide) ?_
  refine lv_iadd hx hb dX4_expand_119 ?_
  refine tI (v := 1) (by decide +kernel) ?_
  refine lv_aload_n hx hb dX4_expand_120 rfl (lv_at hl 6 rfl) ?_
  refine va_get (D := (dC, dI)) (ci := 4) (v := .ref a1) (C := RX4) (T := TX4) (N := 20) hx hb hts inX4 hown hK hP 2 rfl rfl 15 (by decide) (hts _ q702) (fun _ h9 => h9) rfl dX4_expand_121 ?_
  refine lv_iload_n hx hb dX4_expand_124 rfl (lv_at hl 7 rfl) ?_
  refine xa_iald (k := 0) (v := 0) hx hb hK hP 0 0 rfl rfl (by decide) (by decide +kernel) (Nat.le_of_ble_eq_true rfl) rfl dX4_expand_125 ?_
  refine lv_iconst (v := 2) hx hb dX4_expand_126 (by decide) ?_
  refine lv_irem hx hb dX4_expand_127 (by decide) ?_
  refine tI (v := 0) (by decide +kernel) ?_
  refine lv_isub hx hb dX4_expand_128 ?_
  refine tI (v := 1) (by decide +kernel) ?_
  refine lv_istore (lv' := [(7, .int 1), (6, .int 1), (5, .int 0), (4, .int 0), (3, .int 0), (2, .int 1), (0, .ref a0), (1, .int 0)]) hx hb dX4_expand_129 hl (by decide) rfl (fun ls hl => ?_)
  refine lv_aload_n hx hb dX4_expand_131 rfl (lv_at hl 6 rfl) ?_
  refine lv_aload_n hx hb dX4_expand_132 rfl (lv_at hl 6 rfl) ?_
  refine va_get (D := (dC, dI)) (ci := 4) (v := .ref a1) (C := RX4) (T := TX4) (N := 20) hx hb hts inX4 hown hK hP 2 rfl rfl 15 (by decide) (hts _ q702) (fun _ h9 => h9) rfl dX4_expand_133 ?_
  refine lv_iload_n hx hb dX4_expand_136 rfl (lv_at hl 7 rfl) ?_
  refine xa_iald (k := 0) (v := 0) hx hb hK hP 0 0 rfl rfl (by decide) (by decide +kernel) (Nat.le_of_ble_eq_true rfl) rfl dX4_expand_137 ?_
  refine lv_iload hx hb dX4_expand_138 (lv_at hl 0 rfl) ?_
  refine xc_V (b := a0) (wc := [(a0, .inr (4, [.int 0, .int 0, .ref a3, .ref a4, .ref a5, .ref a6, .int 0, .ref a7, .ref a8, .ref a9, .ref a10, .int 0, .int 1, .int 1, .int 1, .ref a1, .ref a2, .ref a11, .ref a12, .ref a13]))]) (As := [.int 0, .int 1]) (rest := []) (wr := [(a1, .inl (cI, 250, .inl (upd (fun _ => 0) 0 0))), (a2, .inl (cI, 250, .inl (upd (fun _ => 0) 0 0)))]) ⟨hx, hb, hml, hown, hts⟩ (kX4_follows_0 l hfl dC dI cI cZ cJ cD a0 a3 a4 a5 a6 a7 a8 a9 a10 a1 a2 a11 a12 a13 _) q857 okX4_follows hP hD hK hE hS hA [2] [0, 1] rfl rfl (by decide) (by decide) (by decide) (ci := 4) rfl 2 rfl rfl rfl hl.1 rfl (Nat.le_of_ble_eq_true rfl) ⟨rfl, rfl⟩ ⟨Nat.le_of_ble_eq_true rfl, Nat.le_of_ble_eq_true rfl⟩ ⟨Nat.le_of_ble_eq_true rfl, Nat.le_of_ble_eq_true rfl⟩ dX4_expand_140 (fun H locs hP hD hS => ?_)
  have hP : va_P (dC, dI) vwCl [(a1, .inl (cI, 250, .inl (upd (fun _ => 0) 0 0))), (a2, .inl (cI, 250, .inl (upd (fun _ => 0) 0 0))), (a0, .inr (4, [.int 0, .int 0, .ref a3, .ref a4, .ref a5, .ref a6, .int 0, .ref a7, .ref a8, .ref a9, .ref a10, .int 0, .int 1, .int 1, .int 1, .ref a1, .ref a2, .ref a11, .ref a12, .ref a13]))] H := hP
  have hD : va_D A [(a1, .inl (cI, 250, .inl (upd (fun _ => 0) 0 0))), (a2, .inl (cI, 250, .inl (upd (fun _ => 0) 0 0))), (a0, .inr (4, [.int 0, .int 0, .ref a3, .ref a4, .ref a5, .ref a6, .int 0, .ref a7, .ref a8, .ref a9, .ref a10, .int 0, .int 1, .int 1, .int 1, .ref a1, .ref a2, .ref a11, .ref a12, .ref a13]))] := hD
  refine W.eq (g2 := F0 m 143 ls [.int 1]) rfl ?_
  refine lv_if_eq (tgt := 174) hx hb dX4_expand_143 (by decide) (fun h9 => absurd h9 (by decide)) (fun _ => ?_)
  refine lv_aload_n hx hb dX4_expand_146 rfl (lv_at hl 6 rfl) ?_
  refine lv_iload hx hb dX4_expand_147 (lv_at hl 0 rfl) ?_
  refine xc_V (b := a0) (wc := [(a0, .inr (4, [.int 0, .int 0, .ref a3, .ref a4, .ref a5, .ref a6, .int 0, .ref a7, .ref a8, .ref a9, .ref a10, .int 0, .int 1, .int 1, .int 1, .ref a1, .ref a2, .ref a11, .ref a12, .ref a13]))]) (As := [.int 1]) (rest := []) (wr := [(a1, .inl (cI, 250, .inl (upd (fun _ => 0) 0 0))), (a2, .inl (cI, 250, .inl (upd (fun _ => 0) 0 0)))]) ⟨hx, hb, hml, hown, hts⟩ (kX4_isAllowed_1 l hfl dC dI cI cZ cJ cD a0 a3 a4 a5 a6 a7 a8 a9 a10 a1 a2 a11 a12 a13 _) q810 okX4_isAllowed hP hD hK hE hS hA [2] [0, 1] rfl rfl (by decide) (by decide) (by decide) (ci := 4) rfl 2 rfl rfl rfl hl.1 rfl (Nat.le_of_ble_eq_true rfl) ⟨rfl, rfl⟩ ⟨Nat.le_of_ble_eq_true rfl, Nat.le_of_ble_eq_true rfl⟩ ⟨Nat.le_of_ble_eq_true rfl, Nat.le_of_ble_eq_true rfl⟩ dX4_expand_149 (fun H locs hP hD hS => ?_)
  have hP : va_P (dC, dI) vwCl [(a1, .inl (cI, 250, .inl (upd (fun _ => 0) 0 0))), (a2, .inl (cI, 250, .inl (upd (fun _ => 0) 0 0))), (a0, .inr (4, [.int 0, .int 0, .ref a3, .ref a4, .ref a5, .ref a6, .int 0, .ref a7, .ref a8, .ref a9, .ref a10, .int 0, .int 1, .int 1, .int 1, .ref a1, .ref a2, .ref a11, .ref a12, .ref a13]))] H := hP
  have hD : va_D A [(a1, .inl (cI, 250, .inl (upd (fun _ => 0) 0 0))), (a2, .inl (cI, 250, .inl (upd (fun _ => 0) 0 0))), (a0, .inr (4, [.int 0, .int 0, .ref a3, .ref a4, .ref a5, .ref a6, .int 0, .ref a7, .ref a8, .ref a9, .ref a10, .int 0, .int 1, .int 1, .int 1, .ref a1, .ref a2, .ref a11, .ref a12, .ref a13]))] := hD
  refine W.eq (g2 := F0 m 152 ls [.int 1]) rfl ?_
  refine lv_if_eq (tgt := 174) hx hb dX4_expand_152 (by decide) (fun h9 => absurd h9 (by decide)) (fun _ => ?_)
  refine lv_aload_n hx hb dX4_expand_155 rfl (lv_at hl 6 rfl) ?_
  refine lv_iload hx hb dX4_expand_156 (lv_at hl 0 rfl) ?_
  refine lv_aload_n hx hb dX4_expand_158 rfl (lv_at hl 6 rfl) ?_
  refine va_get (D := (dC, dI)) (ci := 4) (v := .ref a2) (C := RX4) (T := TX4) (N := 20) hx hb hts inX4 hown hK hP 2 rfl rfl 16 (by decide) (hts _ q703) (fun _ h9 => h9) rfl dX4_expand_159 ?_
  refine lv_iload_n hx hb dX4_expand_162 rfl (lv_at hl 7 rfl) ?_
  refine xa_iald (k := 0) (v := 0) hx hb hK hP 1 0 rfl rfl (by decide) (by decide +kernel) (Nat.le_of_ble_eq_true rfl) rfl dX4_expand_163 ?_
  refine lv_iconst (v := 1) hx hb dX4_expand_164 (by decide) ?_
  refine lv_iadd hx hb dX4_expand_165 ?_
  refine tI (v := 1) (by decide +kernel) ?_
  refine xc_V (b := a0) (wc := [(a1, .inl (cI, 250, .inl (upd (fun _ => 0) 0 0))), (a2, .inl (cI, 250, .inl (upd (fun _ => 0) 0 0))), (a0, .inr (4, [.int 0, .int 0, .ref a3, .ref a4, .ref a5, .ref a6, .int 0, .ref a7, .ref a8, .ref a9, .ref a10, .int 0, .int 1, .int 1, .int 1, .ref a1, .ref a2, .ref a11, .ref a12, .ref a13]))]) (As := [.int 1, .int 1]) (rest := []) (wr := []) ⟨hx, hb, hml, hown, hts⟩ (kX4_add_1 l hfl dC dI cI cZ cJ cD a0 a1 a2 a3 a4 a5 a6 a7 a8 a9 a10 a11 a12 a13 _) q837 okX4_add hP hD hK hE hS hA [0, 1, 2] [] rfl rfl (by decide) (by decide) (by decide) (ci := 4) rfl 2 rfl rfl rfl hl.1 rfl (Nat.le_of_ble_eq_true rfl) ⟨rfl, rfl⟩ ⟨Nat.le_of_ble_eq_true rfl, Nat.le_of_ble_eq_true rfl⟩ ⟨Nat.le_of_ble_eq_true rfl, Nat.le_of_ble_eq_true rfl⟩ dX4_expand_166 (fun H locs hP hD hS => ?_)
  have hP : va_P (dC, dI) vwCl [(a1, .inl (cI, 250, .inl (upd (upd (fun _ => 0) 0 0) 1 1))), (a2, .inl (cI, 250, .inl (upd (upd (fun _ => 0) 0 0) 1 1))), (a0, .inr (4, [.int 0, .int 0, .ref a3, .ref a4, .ref a5, .ref a6, .int 0, .ref a7, .ref a8, .ref a9, .ref a10, .int 0, .int 1, .int 2, .int 1, .ref a1, .ref a2, .ref a11, .ref a12, .ref a13]))] H := hP
  have hD : va_D A [(a1, .inl (cI, 250, .inl (upd (upd (fun _ => 0) 0 0) 1 1))), (a2, .inl (cI, 250, .inl (upd (upd (fun _ => 0) 0 0) 1 1))), (a0, .inr (4, [.int 0, .int 0, .ref a3, .ref a4, .ref a5, .ref a6, .int 0, .ref a7, .ref a8, .ref a9, .ref a10, .int 0, .int 1, .int 2, .int 1, .ref a1, .ref a2, .ref a11, .ref a12, .ref a13]))] := hD
  refine W.eq (g2 := F0 m 169 ls [.int 1]) rfl ?_
  refine lv_if_ne (tgt := 174) hx hb dX4_expand_169 (by decide) (fun _ => ?_) (fun h9 => absurd h9 (by decide))
  refine lv_iinc (v := 1) (lv' := [(3, .int 1), (7, .int 1), (6, .int 1), (5, .int 0), (4, .int 0), (2, .int 1), (0, .ref a0), (1, .int 0)]) hx hb dX4_expand_174 hl (k := 4) rfl (by decide +kernel) (by decide) rfl (fun ls hl => ?_)
  refine lv_goto (tgt := 39) hx hb dX4_expand_177 (by decide) ?_
  refine lv_iload_n hx hb dX4_expand_39 rfl (lv_at hl 0 rfl) ?_
  refine lv_iload_n hx hb dX4_expand_40 rfl (lv_at hl 5 rfl) ?_
  refine lv_icmp_ge (tgt := 180) hx hb dX4_expand_41 (by decide) (fun _ => ?_) (fun h9 => absurd (by decide) h9)
  refine lv_iconst (v := 1) hx hb dX4_expand_180 (by decide) ?_
  exact xr_z hx hb hr hlocks hP hD hS [0, 1, 2] rfl (by decide) rfl (Nat.le_of_ble_eq_true rfl) (Nat.le_of_ble_eq_true rfl) dX4_expand_181
