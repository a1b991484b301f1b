set_option maxHeartbeats 4000000 in
set_option maxRecDepth 100000 in
theorem kX0_append_1 (l : Launch) (hfl : l.stackTraces = false) (dC : Nat → ClassId) (dI : Nat → Nat → Nat) (cI cZ cJ cD : ClassId) (a0 a1 a2 a3 a4 a5 a6 a7 a8 a9 : Nat) (sz : Nat) : Met l yX0_append (ws_ yX0_append cX0_append 5 none) (rm_ 1 0 0) (PC (dC, dI) (tyL cI cZ cJ cD) [(a1, .inl (cI, 250, .inl (upd (fun _ => 0) 0 0))), (a2, .inl (cZ, 250, .inl (upd (fun _ => 0) 0 1))), (a3, .inl (cI, 250, .inl (upd (fun _ => 0) 0 0))), (a0, .inr (0, [.int 1, .int 1, .int 1, .ref a1, .ref a2, .ref a3, .ref a4, .ref a5, .ref a6, .int 0, .ref a7, .ref a8, .ref a9])), (a4, .inl (cI, 512, .inl (upd (fun _ => 0) 316 1)))] sz [.ref a0, .int 0, .int 0, .int 0, .int 0]) (QR (dC, dI) [(a1, .inl (cI, 250, .inl (upd (upd (fun _ => 0) 0 0) 1 0))), (a2, .inl (cZ, 250, .inl (upd (upd (fun _ => 0) 0 1) 1 0))), (a3, .inl (cI, 250, .inl (upd (upd (fun _ => 0) 0 0) 1 1))), (a0, .inr (0, [.int 2, .int 1, .int 1, .ref a1, .ref a2, .ref a3, .ref a4, .ref a5, .ref a6, .int 0, .ref a7, .ref a8, .ref a9])), (a4, .inl (cI, 512, .inl (upd (upd (fun _ => 0) 316 1) 0 2)))] none (va_A [(a1, .inl (cI, 250, .inl (upd (fun _ => 0) 0 0))), (a2, .inl (cZ, 250, .inl (upd (fun _ => 0) 0 1))), (a3, .inl (cI, 250, .inl (upd (fun _ => 0) 0 0))), (a0, .inr (0, [.int 1, .int 1, .int 1, .ref a1, .ref a2, .ref a3, .ref a4, .ref a5, .ref a6, .int 0, .ref a7, .ref a8, .ref a9])), (a4, .inl (cI, 512, .inl (upd (fun _ => 0) 316 1)))] sz)) 0 0 (va_A [(a1, .inl (cI, 250, .inl (upd (fun _ => 0) 0 0))), (a2, .inl (cZ, 250, .inl (upd (fun _ => 0) 0 1))), (a3, .inl (cI, 250, .inl (upd (fun _ => 0) 0 0))), (a0, .inr (0, [.int 1, .int 1, .int 1, .ref a1, .ref a2, .ref a3, .ref a4, .ref a5, .ref a6, .int 0, .ref a7, .ref a8, .ref a9])), (a4, .inl (cI, 512, .inl (upd (fun _ => 0) 316 1)))] sz) := by
  refine xm_of (QQ := QR (dC, dI) [(a1, .inl (cI, 250, .inl (upd (upd (fun _ => 0) 0 0) 1 0))), (a2, .inl (cZ, 250, .inl (upd (upd (fun _ => 0) 0 1) 1 0))), (a3, .inl (cI, 250, .inl (upd (upd (fun _ => 0) 0 0) 1 1))), (a0, .inr (0, [.int 2, .int 1, .int 1, .ref a1, .ref a2, .ref a3, .ref a4, .ref a5, .ref a6, .int 0, .ref a7, .ref a8, .ref a9])), (a4, .inl (cI, 512, .inl (upd (upd (fun _ => 0) 316 1) 0 2)))] none) (by decide +kernel) (Nat.le_of_ble_eq_true rfl) ?_
  intro p e s m below meth c A ls hx hb hr hml hown hts hlocks hin hK hP hD hE hA hS hl
  have hown : s.vm.findClass RX0 = some m.cls := hown
  have hl : lv_has ls 5 [(0, .ref a0), (1, .int 0), (2, .int 0), (3, .int 0), (4, .int 0)] := hl
  have hP : va_P (dC, dI) vwCl [(a1, .inl (cI, 250, .inl (upd (fun _ => 0) 0 0))), (a2, .inl (cZ, 250, .inl (upd (fun _ => 0) 0 1))), (a3, .inl (cI, 250, .inl (upd (fun _ => 0) 0 0))), (a0, .inr (0, [.int 1, .int 1, .int 1, .ref a1, .ref a2, .ref a3, .ref a4, .ref a5, .ref a6, .int 0, .ref a7, .ref a8, .ref a9])), (a4, .inl (cI, 512, .inl (upd (fun _ => 0) 316 1)))] s.heap := hP
  refine lv_aload_n hx hb dX0_append_0 rfl (lv_at hl 0 rfl) ?_
  refine va_get (D := (dC, dI)) (ci := 0) (v := .int 1) (C := RX0) (T := TX0) (N := 13) hx hb hts inX0 hown hK hP 3 rfl rfl 0 (by decide) (hts _ q90) (fun _ h9 => h9) rfl dX0_append_1 ?_
  refine lv_sipush (v := 250) hx hb dX0_append_4 (by decide) ?_
  refine lv_icmp_lt (tgt := 16) hx hb dX0_append_7 (by decide) (fun _ => ?_) (fun h9 => absurd (by decide) h9)
  refine lv_aload_n hx hb dX0_append_16 rfl (lv_at hl 0 rfl) ?_
  refine va_get (D := (dC, dI)) (ci := 0) (v := .ref a1) (C := RX0) (T := TX0) (N := 13) hx hb hts inX0 hown hK hP 3 rfl rfl 3 (by decide) (hts _ q99) (fun _ h9 => h9) rfl dX0_append_17 ?_
  refine lv_aload_n hx hb dX0_append_20 rfl (lv_at hl 0 rfl) ?_
  refine va_get (D := (dC, dI)) (ci := 0) (v := .int 1) (C := RX0) (T := TX0) (N := 13) hx hb hts inX0 hown hK hP 3 rfl rfl 0 (by decide) (hts _ q90) (fun _ h9 => h9) rfl dX0_append_21 ?_
  refine lv_iload_n hx hb dX0_append_24 rfl (lv_at hl 1 rfl) ?_
  refine xa_iast (k := 1) (w1 := [(a1, .inl (cI, 250, .inl (upd (upd (fun _ => 0) 0 0) 1 0))), (a2, .inl (cZ, 250, .inl (upd (fun _ => 0) 0 1))), (a3, .inl (cI, 250, .inl (upd (fun _ => 0) 0 0))), (a0, .inr (0, [.int 1, .int 1, .int 1, .ref a1, .ref a2, .ref a3, .ref a4, .ref a5, .ref a6, .int 0, .ref a7, .ref a8, .ref a9])), (a4, .inl (cI, 512, .inl (upd (fun _ => 0) 316 1)))]) hx hb hK hP hD hS 0 0 rfl rfl (by decide) (by decide +kernel) (Nat.le_of_ble_eq_true rfl) rfl dX0_append_25 (fun H locs hP hD hS => ?_)
  refine lv_aload_n hx hb dX0_append_26 rfl (lv_at hl 0 rfl) ?_
  refine va_get (D := (dC, dI)) (ci := 0) (v := .ref a2) (C := RX0) (T := TX0) (N := 13) hx hb hts inX0 hown hK hP 3 rfl rfl 4 (by decide) (hts _ q102) (fun _ h9 => h9) rfl dX0_append_27 ?_
  refine lv_aload_n hx hb dX0_append_30 rfl (lv_at hl 0 rfl) ?_
  refine va_get (D := (dC, dI)) (ci := 0) (v := .int 1) (C := RX0) (T := TX0) (N := 13) hx hb hts inX0 hown hK hP 3 rfl rfl 0 (by decide) (hts _ q90) (fun _ h9 => h9) rfl dX0_append_31 ?_
  refine lv_iload_n hx hb dX0_append_34 rfl (lv_at hl 2 rfl) ?_
  refine xa_zast (k := 1) (z := 0) (w1 := [(a1, .inl (cI, 250, .inl (upd (upd (fun _ => 0) 0 0) 1 0))), (a2, .inl (cZ, 250, .inl (upd (upd (fun _ => 0) 0 1) 1 0))), (a3, .inl (cI, 250, .inl (upd (fun _ => 0) 0 0))), (a0, .inr (0, [.int 1, .int 1, .int 1, .ref a1, .ref a2, .ref a3, .ref a4, .ref a5, .ref a6, .int 0, .ref a7, .ref a8, .ref a9])), (a4, .inl (cI, 512, .inl (upd (fun _ => 0) 316 1)))]) hx hb hK hP hD hS 1 1 rfl rfl (by decide) (by decide +kernel) (Nat.le_of_ble_eq_true rfl) rfl rfl dX0_append_35 (fun H locs hP hD hS => ?_)
  refine lv_aload_n hx hb dX0_append_36 rfl (lv_at hl 0 rfl) ?_
  refine va_get (D := (dC, dI)) (ci := 0) (v := .ref a3) (C := RX0) (T := TX0) (N := 13) hx hb hts inX0 hown hK hP 3 rfl rfl 5 (by decide) (hts _ q105) (fun _ h9 => h9) rfl dX0_append_37 ?_
  refine lv_aload_n hx hb dX0_append_40 rfl (lv_at hl 0 rfl) ?_
  refine va_get (D := (dC, dI)) (ci := 0) (v := .int 1) (C := RX0) (T := TX0) (N := 13) hx hb hts inX0 hown hK hP 3 rfl rfl 0 (by decide) (hts _ q90) (fun _ h9 => h9) rfl dX0_append_41 ?_
  refine lv_iload_n hx hb dX0_append_44 rfl (lv_at hl 3 rfl) ?_
  refine lv_if_ge (tgt := 52) hx hb dX0_append_45 (by decide) (fun _ => ?_) (fun h9 => absurd (by decide) h9)
  refine lv_aload_n hx hb dX0_append_52 rfl (lv_at hl 0 rfl) ?_
  refine va_get (D := (dC, dI)) (ci := 0) (v := .ref a3) (C := RX0) (T := TX0) (N := 13) hx hb hts inX0 hown hK hP 3 rfl rfl 5 (by decide) (hts _ q105) (fun _ h9 => h9) rfl dX0_append_53 ?_
  refine lv_iload_n hx hb dX0_append_56 rfl (lv_at hl 3 rfl) ?_
  refine xa_iald (k := 0) (v := 0) hx hb hK hP 2 0 rfl rfl (by decide) (by decide +kernel) (Nat.le_of_ble_eq_true rfl) rfl dX0_append_57 ?_
  refine lv_iconst (v := 1) hx hb dX0_append_58 (by decide) ?_
  refine lv_iadd hx hb dX0_append_59 ?_
  refine tI (v := 1) (by decide +kernel) ?_
  refine xa_iast (k := 1) (w1 := [(a1, .inl (cI, 250, .inl (upd (upd (fun _ => 0) 0 0) 1 0))), (a2, .inl (cZ, 250, .inl (upd (upd (fun _ => 0) 0 1) 1 0))), (a3, .inl (cI, 250, .inl (upd (upd (fun _ => 0) 0 0) 1 1))), (a0, .inr (0, [.int 1, .int 1, .int 1, .ref a1, .ref a2, .ref a3, .ref a4, .ref a5, .ref a6, .int 0, .ref a7, .ref a8, .ref a9])), (a4, .inl (cI, 512, .inl (upd (fun _ => 0) 316 1)))]) hx hb hK hP hD hS 2 0 rfl rfl (by decide) (by decide +kernel) (Nat.le_of_ble_eq_true rfl) rfl dX0_append_60 (fun H locs hP hD hS => ?_)
  refine lv_aload_n hx hb dX0_append_61 rfl (lv_at hl 0 rfl) ?_
  refine lv_dup hx hb dX0_append_62 rfl ?_
  refine va_get (D := (dC, dI)) (ci := 0) (v := .int 1) (C := RX0) (T := TX0) (N := 13) hx hb hts inX0 hown hK hP 3 rfl rfl 0 (by decide) (hts _ q90) (fun _ h9 => h9) rfl dX0_append_63 ?_
  refine lv_iconst (v := 1) hx hb dX0_append_66 (by decide) ?_
  refine lv_iadd hx hb dX0_append_67 ?_
  refine tI (v := 2) (by decide +kernel) ?_
  refine va_put (D := (dC, dI)) (ci := 0) (v := .int 2) (ty := .int) (C := RX0) (T := TX0) (N := 13) hx hb hts inX0 tyX0 tyX0_ok nmX0 hown hK hP hD hS 3 rfl rfl 0 (by decide) (hts _ q90) (fun _ h9 => h9) rfl (by decide +kernel) rfl rfl (Nat.le_of_ble_eq_true rfl) dX0_append_68 (fun H locs hP hD hS => ?_)
  have hP : va_P (dC, dI) vwCl [(a1, .inl (cI, 250, .inl (upd (upd (fun _ => 0) 0 0) 1 0))), (a2, .inl (cZ, 250, .inl (upd (upd (fun _ => 0) 0 1) 1 0))), (a3, .inl (cI, 250, .inl (upd (upd (fun _ => 0) 0 0) 1 1))), (a0, .inr (0, [.int 2, .int 1, .int 1, .ref a1, .ref a2, .ref a3, .ref a4, .ref a5, .ref a6, .int 0, .ref a7, .ref a8, .ref a9])), (a4, .inl (cI, 512, .inl (upd (fun _ => 0) 316 1)))] H := hP
  have hD : va_D A [(a1, .inl (cI, 250, .inl (upd (upd (fun _ => 0) 0 0) 1 0))), (a2, .inl (cZ, 250, .inl (upd (upd (fun _ => 0) 0 1) 1 0))), (a3, .inl (cI, 250, .inl (upd (upd (fun _ => 0) 0 0) 1 1))), (a0, .inr (0, [.int 2, .int 1, .int 1, .ref a1, .ref a2, .ref a3, .ref a4, .ref a5, .ref a6, .int 0, .ref a7, .ref a8, .ref a9])), (a4, .inl (cI, 512, .inl (upd (fun _ => 0) 316 1)))] := hD
  refine lv_aload_n hx hb dX0_append_71 rfl (lv_at hl 0 rfl) ?_
  refine va_get (D := (dC, dI)) (ci := 0) (v := .ref a4) (C := RX0) (T := TX0) (N := 13) hx hb hts inX0 hown hK hP 3 rfl rfl 6 (by decide) (hts _ q107) (fun _ h9 => h9) rfl dX0_append_72 ?_
  refine lv_iload hx hb dX0_append_75 (lv_at hl 4 rfl) ?_
  refine lv_aload_n hx hb dX0_append_77 rfl (lv_at hl 0 rfl) ?_
  refine va_get (D := (dC, dI)) (ci := 0) (v := .int 2) (C := RX0) (T := TX0) (N := 13) hx hb hts inX0 hown hK hP 3 rfl rfl 0 (by decide) (hts _ q90) (fun _ h9 => h9) rfl dX0_append_78 ?_
  refine xa_iast (k := 0) (w1 := [(a1, .inl (cI, 250, .inl (upd (upd (fun _ => 0) 0 0) 1 0))), (a2, .inl (cZ, 250, .inl (upd (upd (fun _ => 0) 0 1) 1 0))), (a3, .inl (cI, 250, .inl (upd (upd (fun _ => 0) 0 0) 1 1))), (a0, .inr (0, [.int 2, .int 1, .int 1, .ref a1, .ref a2, .ref a3, .ref a4, .ref a5, .ref a6, .int 0, .ref a7, .ref a8, .ref a9])), (a4, .inl (cI, 512, .inl (upd (upd (fun _ => 0) 316 1) 0 2)))]) hx hb hK hP hD hS 4 0 rfl rfl (by decide) (by decide +kernel) (Nat.le_of_ble_eq_true rfl) rfl dX0_append_81 (fun H locs hP hD hS => ?_)
  exact xr_v hx hb hr hlocks hP hD hS [0, 1, 2, 3, 4] rfl (by decide) (Nat.le_of_ble_eq_true rfl) (Nat.le_of_ble_eq_true rfl) dX0_append_82
set_option maxHeartbeats 4000000 in
set_option maxRecDepth 100000 in
theorem kX0_meet_1 (l : Launch) (hfl : l.stackTraces = false) (dC : Nat → ClassId) (dI : Nat → Nat → Nat) (cI cZ cJ cD : ClassId) (a0 a1 a2 a3 a4 a5 a6 a7 a8 a9 : Nat) (sz : Nat) : Met l yX0_meet (ws_ yX0_meet cX0_meet 7 none) (rm_ 2 0 0) (PC (dC, dI) (tyL cI cZ cJ cD) [(a1, .inl (cI, 250, .inl (upd (fun _ => 0) 0 0))), (a2, .inl (cZ, 250, .inl (upd (fun _ => 0) 0 1))), (a3, .inl (cI, 250, .inl (upd (fun _ => 0) 0 0))), (a0, .inr (0, [.int 1, .int 1, .int 1, .ref a1, .ref a2, .ref a3, .ref a4, .ref a5, .ref a6, .int 0, .ref a7, .ref a8, .ref a9])), (a4, .inl (cI, 512, .inl (upd (fun _ => 0) 316 1)))] sz [.ref a0, .int 0, .int 0]) (QR (dC, dI) [(a1, .inl (cI, 250, .inl (upd (upd (fun _ => 0) 0 0) 1 0))), (a2, .inl (cZ, 250, .inl (upd (upd (fun _ => 0) 0 1) 1 0))), (a3, .inl (cI, 250, .inl (upd (upd (fun _ => 0) 0 0) 1 1))), (a0, .inr (0, [.int 2, .int 1, .int 1, .ref a1, .ref a2, .ref a3, .ref a4, .ref a5, .ref a6, .int 0, .ref a7, .ref a8, .ref a9])), (a4, .inl (cI, 512, .inl (upd (upd (fun _ => 0) 316 1) 0 2)))] none (va_A [(a1, .inl (cI, 250, .inl (upd (fun _ => 0) 0 0))), (a2, .inl (cZ, 250, .inl (upd (fun _ => 0) 0 1))), (a3, .inl (cI, 250, .inl (upd (fun _ => 0) 0 0))), (a0, .inr (0, [.int 1, .int 1, .int 1, .ref a1, .ref a2, .ref a3, .ref a4, .ref a5, .ref a6, .int 0, .ref a7, .ref a8, .ref a9])), (a4, .inl (cI, 512, .inl (upd (fun _ => 0) 316 1)))] sz)) 0 0 (va_A [(a1, .inl (cI, 250, .inl (upd (fun _ => 0) 0 0))), (a2, .inl (cZ, 250, .inl (upd (fun _ => 0) 0 1))), (a3, .inl (cI, 250, .inl (upd (fun _ => 0) 0 0))), (a0, .inr (0, [.int 1, .int 1, .int 1, .ref a1, .ref a2, .ref a3, .ref a4, .ref a5, .ref a6, .int 0, .ref a7, .ref a8, .ref a9])), (a4, .inl (cI, 512, .inl (upd (fun _ => 0) 316 1)))] sz) := by
  refine xm_of (QQ := QR (dC, dI) [(a1, .inl (cI, 250, .inl (upd (upd (fun _ => 0) 0 0) 1 0))), (a2, .inl (cZ, 250, .inl (upd (upd (fun _ => 0) 0 1) 1 0))), (a3, .inl (cI, 250, .inl (upd (upd (fun _ => 0) 0 0) 1 1))), (a0, .inr (0, [.int 2, .int 1, .int 1, .ref a1, .ref a2, .ref a3, .ref a4, .ref a5, .ref a6, .int 0, .ref a7, .ref a8, .ref a9])), (a4, .inl (cI, 512, .inl (upd (upd (fun _ => 0) 316 1) 0 2)))] none) (by decide +kernel) (Nat.le_of_ble_eq_true rfl) ?_
  intro p e s m below meth c A ls hx hb hr hml hown hts hlocks hin hK hP hD hE hA hS hl
  have hown : s.vm.findClass RX0 = some m.cls := hown
  have hl : lv_has ls 7 [(0, .ref a0), (1, .int 0), (2, .int 0)] := hl
  have hP : va_P (dC, dI) vwCl [(a1, .inl (cI, 250, .inl (upd (fun _ => 0) 0 0))), (a2, .inl (cZ, 250, .inl (upd (fun _ => 0) 0 1))), (a3, .inl (cI, 250, .inl (upd (fun _ => 0) 0 0))), (a0, .inr (0, [.int 1, .int 1, .int 1, .ref a1, .ref a2, .ref a3, .ref a4, .ref a5, .ref a6, .int 0, .ref a7, .ref a8, .ref a9])), (a4, .inl (cI, 512, .inl (upd (fun _ => 0) 316 1)))] s.heap := hP
  refine lv_iload_n hx hb dX0_meet_0 rfl (lv_at hl 2 rfl) ?_
  refine lv_if_lt (tgt := 13) hx hb dX0_meet_1 (by decide) (fun h9 => absurd h9 (by decide)) (fun _ => ?_)
  refine lv_aload_n hx hb dX0_meet_4 rfl (lv_at hl 0 rfl) ?_
  refine va_get (D := (dC, dI)) (ci := 0) (v := .ref a2) (C := RX0) (T := TX0) (N := 13) hx hb hts inX0 hown hK hP 3 rfl rfl 4 (by decide) (hts _ q102) (fun _ h9 => h9) rfl dX0_meet_5 ?_
  refine lv_iload_n hx hb dX0_meet_8 rfl (lv_at hl 2 rfl) ?_
  refine xa_zald (k := 0) (v := 1) hx hb hK hP 1 1 rfl rfl (by decide) (by decide +kernel) (Nat.le_of_ble_eq_true rfl) rfl dX0_meet_9 ?_
  refine lv_if_ne (tgt := 17) hx hb dX0_meet_10 (by decide) (fun _ => ?_) (fun h9 => absurd h9 (by decide))
  refine lv_iconst (v := 0) hx hb dX0_meet_17 (by decide) ?_
  refine lv_istore_n (lv' := [(3, .int 0), (0, .ref a0), (1, .int 0), (2, .int 0)]) hx hb dX0_meet_18 rfl hl (by decide) rfl (fun ls hl => ?_)
  refine lv_iload_n hx hb dX0_meet_19 rfl (lv_at hl 0 rfl) ?_
  refine lv_if_eq (tgt := 38) hx hb dX0_meet_20 (by decide) (fun _ => ?_) (fun h9 => absurd (by decide) h9)
  refine lv_iload_n hx hb dX0_meet_38 rfl (lv_at hl 2 rfl) ?_
  refine lv_iload_n hx hb dX0_meet_39 rfl (lv_at hl 2 rfl) ?_
  refine lv_iadd hx hb dX0_meet_40 ?_
  refine tI (v := 0) (by decide +kernel) ?_
  refine lv_iload_n hx hb dX0_meet_41 rfl (lv_at hl 0 rfl) ?_
  refine lv_if_eq (tgt := 49) hx hb dX0_meet_42 (by decide) (fun _ => ?_) (fun h9 => absurd (by decide) h9)
  refine lv_iconst (v := 0) hx hb dX0_meet_49 (by decide) ?_
  refine lv_iadd hx hb dX0_meet_50 ?_
  refine tI (v := 0) (by decide +kernel) ?_
  refine lv_ldc (v := (-1640531535)) hx hb hown (hts _ q318) dX0_meet_51 ?_
  refine lv_imul hx hb dX0_meet_53 ?_
  refine tI (v := 0) (by decide +kernel) ?_
  refine lv_bipush (v := 23) hx hb dX0_meet_54 (by decide) ?_
  refine lv_iushr (v := 0) hx hb dX0_meet_56 (by decide +kernel) ?_
  refine lv_istore (lv' := [(4, .int 0), (3, .int 0), (0, .ref a0), (1, .int 0), (2, .int 0)]) hx hb dX0_meet_57 hl (by decide) rfl (fun ls hl => ?_)
  refine lv_iconst (v := 0) hx hb dX0_meet_59 (by decide) ?_
  refine lv_istore (lv' := [(5, .int 0), (4, .int 0), (3, .int 0), (0, .ref a0), (1, .int 0), (2, .int 0)]) hx hb dX0_meet_60 hl (by decide) rfl (fun ls hl => ?_)
  refine lv_iload hx hb dX0_meet_62 (lv_at hl 0 rfl) ?_
  refine lv_sipush (v := 512) hx hb dX0_meet_64 (by decide) ?_
  refine lv_icmp_ge (tgt := 135) hx hb dX0_meet_67 (by decide) (fun h9 => absurd h9 (by decide)) (fun _ => ?_)
  refine lv_aload_n hx hb dX0_meet_70 rfl (lv_at hl 3 rfl) ?_
  refine va_get (D := (dC, dI)) (ci := 0) (v := .ref a4) (C := RX0) (T := TX0) (N := 13) hx hb hts inX0 hown hK hP 3 rfl rfl 6 (by decide) (hts _ q107) (fun _ h9 => h9) rfl dX0_meet_71 ?_
  refine lv_iload hx hb dX0_meet_74 (lv_at hl 1 rfl) ?_
  refine xa_iald (k := 0) (v := 0) hx hb hK hP 4 0 rfl rfl (by decide) (by decide +kernel) (Nat.le_of_ble_eq_true rfl) rfl dX0_meet_76 ?_
  refine lv_iconst (v := 1) hx hb dX0_meet_77 (by decide) ?_
  refine lv_isub hx hb dX0_meet_78 ?_
  refine tI (v := (-1)) (by decide +kernel) ?_
  refine lv_istore (lv' := [(6, .int (-1)), (5, .int 0), (4, .int 0), (3, .int 0), (0, .ref a0), (1, .int 0), (2, .int 0)]) hx hb dX0_meet_79 hl (by decide) rfl (fun ls hl => ?_)
  refine lv_iload hx hb dX0_meet_81 (lv_at hl 0 rfl) ?_
  refine lv_if_ge (tgt := 96) hx hb dX0_meet_83 (by decide) (fun h9 => absurd h9 (by decide)) (fun _ => ?_)
  refine lv_aload_n hx hb dX0_meet_86 rfl (lv_at hl 4 rfl) ?_
  refine lv_iload_n hx hb dX0_meet_87 rfl (lv_at hl 5 rfl) ?_
  refine lv_iload_n hx hb dX0_meet_88 rfl (lv_at hl 3 rfl) ?_
  refine lv_iload_n hx hb dX0_meet_89 rfl (lv_at hl 6 rfl) ?_
  refine lv_iload hx hb dX0_meet_90 (lv_at hl 2 rfl) ?_
  refine xc_V (b := a0) (wc := [(a1, .inl (cI, 250, .inl (upd (fun _ => 0) 0 0))), (a2, .inl (cZ, 250, .inl (upd (fun _ => 0) 0 1))), (a3, .inl (cI, 250, .inl (upd (fun _ => 0) 0 0))), (a0, .inr (0, [.int 1, .int 1, .int 1, .ref a1, .ref a2, .ref a3, .ref a4, .ref a5, .ref a6, .int 0, .ref a7, .ref a8, .ref a9])), (a4, .inl (cI, 512, .inl (upd (fun _ => 0) 316 1)))]) (As := [.int 0, .int 0, .int 0, .int 0]) (rest := []) (wr := []) ⟨hx, hb, hml, hown, hts⟩ (kX0_append_1 l hfl dC dI cI cZ cJ cD a0 a1 a2 a3 a4 a5 a6 a7 a8 a9 _) q319 okX0_append hP hD hK hE hS hA [0, 1, 2, 3, 4] [] rfl rfl (by decide) (by decide) (by decide) (ci := 0) rfl 3 rfl rfl rfl hl.1 rfl (Nat.le_of_ble_eq_true rfl) ⟨rfl, rfl⟩ ⟨Nat.le_of_ble_eq_true rfl, Nat.le_of_ble_eq_true rfl⟩ ⟨Nat.le_of_ble_eq_true rfl, Nat.le_of_ble_eq_true rfl⟩ dX0_meet_92 (fun H locs hP hD hS => ?_)
  have hP : va_P (dC, dI) vwCl [(a1, .inl (cI, 250, .inl (upd (upd (fun _ => 0) 0 0) 1 0))), (a2, .inl (cZ, 250, .inl (upd (upd (fun _ => 0) 0 1) 1 0))), (a3, .inl (cI, 250, .inl (upd (upd (fun _ => 0) 0 0) 1 1))), (a0, .inr (0, [.int 2, .int 1, .int 1, .ref a1, .ref a2, .ref a3, .ref a4, .ref a5, .ref a6, .int 0, .ref a7, .ref a8, .ref a9])), (a4, .inl (cI, 512, .inl (upd (upd (fun _ => 0) 316 1) 0 2)))] H := hP
  have hD : va_D A [(a1, .inl (cI, 250, .inl (upd (upd (fun _ => 0) 0 0) 1 0))), (a2, .inl (cZ, 250, .inl (upd (upd (fun _ => 0) 0 1) 1 0))), (a3, .inl (cI, 250, .inl (upd (upd (fun _ => 0) 0 0) 1 1))), (a0, .inr (0, [.int 2, .int 1, .int 1, .ref a1, .ref a2, .ref a3, .ref a4, .ref a5, .ref a6, .int 0, .ref a7, .ref a8, .ref a9])), (a4, .inl (cI, 512, .inl (upd (upd (fun _ => 0) 316 1) 0 2)))] := hD
  refine W.eq (g2 := F0 m 95 ls []) rfl ?_
  exact xr_v hx hb hr hlocks hP hD hS [0, 1, 2, 3, 4] rfl (by decide) (Nat.le_of_ble_eq_true rfl) (Nat.le_of_ble_eq_true rfl) dX0_meet_95
set_option maxHeartbeats 4000000 in
set_option maxRecDepth 100000 in
theorem kX2_bindFrom_1 (l : Launch) (hfl : l.stackTraces = false) (dC : Nat → ClassId) (dI : Nat → Nat → Nat) (cI cZ cJ cD : ClassId) (a0 a1 a2 a3 a4 a5 a6 a7 a8 a9 a10 a11 a12 a13 a14 a15 a16 a17 a18 a19 a20 a21 a22 a23 : Nat) (sz : Nat) : Met l yX2_bindFrom (ws_ yX2_bindFrom cX2_bindFrom 5 none) (rm_ 3 0 0) (PC (dC, dI) (tyL cI cZ cJ cD) [(a1, .inl (cI, 250, .inl (upd (fun _ => 0) 0 0))), (a2, .inl (cZ, 250, .inl (upd (fun _ => 0) 0 1))), (a3, .inl (cI, 250, .inl (upd (fun _ => 0) 0 0))), (a4, .inr (0, [.int 1, .int 1, .int 1, .ref a1, .ref a2, .ref a3, .ref a5, .ref a6, .ref a7, .int 0, .ref a8, .ref a9, .ref a10])), (a5, .inl (cI, 512, .inl (upd (fun _ => 0) 316 1))), (a11, .inr (1, [.int 0, .ref a12, .ref a13, .ref a14, .ref a15, .ref a16, .ref a17, .ref a18, .int 0, .ref a19, .ref a20, .ref a21, .ref a22])), (a0, .inr (2, [.ref a11, .ref a4, .ref a23, .int 0]))] sz [.ref a0, .int 0, .int 0]) (QR (dC, dI) [(a1, .inl (cI, 250, .inl (upd (upd (fun _ => 0) 0 0) 1 0))), (a2, .inl (cZ, 250, .inl (upd (upd (fun _ => 0) 0 1) 1 0))), (a3, .inl (cI, 250, .inl (upd (upd (fun _ => 0) 0 0) 1 1))), (a4, .inr (0, [.int 2, .int 1, .int 1, .ref a1, .ref a2, .ref a3, .ref a5, .ref a6, .ref a7, .int 0, .ref a8, .ref a9, .ref a10])), (a5, .inl (cI, 512, .inl (upd (upd (fun _ => 0) 316 1) 0 2))), (a11, .inr (1, [.int 0, .ref a12, .ref a13, .ref a14, .ref a15, .ref a16, .ref a17, .ref a18, .int 0, .ref a19, .ref a20, .ref a21, .ref a22])), (a0, .inr (2, [.ref a11, .ref a4, .ref a23, .int 0]))] none (va_A [(a1, .inl (cI, 250, .inl (upd (fun _ => 0) 0 0))), (a2, .inl (cZ, 250, .inl (upd (fun _ => 0) 0 1))), (a3, .inl (cI, 250, .inl (upd (fun _ => 0) 0 0))), (a4, .inr (0, [.int 1, .int 1, .int 1, .ref a1, .ref a2, .ref a3, .ref a5, .ref a6, .ref a7, .int 0, .ref a8, .ref a9, .ref a10])), (a5, .inl (cI, 512, .inl (upd (fun _ => 0) 316 1))), (a11, .inr (1, [.int 0, .ref a12, .ref a13, .ref a14, .ref a15, .ref a16, .ref a17, .ref a18, .int 0, .ref a19, .ref a20, .ref a21, .ref a22])), (a0, .inr (2, [.ref a11, .ref a4, .ref a23, .int 0]))] sz)) 0 0 (va_A [(a1, .inl (cI, 250, .inl (upd (fun _ => 0) 0 0))), (a2, .inl (cZ, 250, .inl (upd (fun _ => 0) 0 1))), (a3, .inl (cI, 250, .inl (upd (fun _ => 0) 0 0))), (a4, .inr (0, [.int 1, .int 1, .int 1, .ref a1, .ref a2, .ref a3, .ref a5, .ref a6, .ref a7, .int 0, .ref a8, .ref a9, .ref a10])), (a5, .inl (cI, 512, .inl (upd (fun _ => 0) 316 1))), (a11, .inr (1, [.int 0, .ref a12, .ref a13, .ref a14, .ref a15, .ref a16, .ref a17, .ref a18, .int 0, .ref a19, .ref a20, .ref a21, .ref a22])), (a0, .inr (2, [.ref a11, .ref a4, .ref a23, .int 0]))] sz) := by
  refine xm_of (QQ := QR (dC, dI) [(a1, .inl (cI, 250, .inl (upd (upd (fun _ => 0) 0 0) 1 0))), (a2, .inl (cZ, 250, .inl (upd (upd (fun _ => 0) 0 1) 1 0))), (a3, .inl (cI, 250, .inl (upd (upd (fun _ => 0) 0 0) 1 1))), (a4, .inr (0, [.int 2, .int 1, .int 1, .ref a1, .ref a2, .ref a3, .ref a5, .ref a6, .ref a7, .int 0, .ref a8, .ref a9, .ref a10])), (a5, .inl (cI, 512, .inl (upd (upd (fun _ => 0) 316 1) 0 2))), (a11, .inr (1, [.int 0, .ref a12, .ref a13, .ref a14, .ref a15, .ref a16, .ref a17, .ref a18, .int 0, .ref a19, .ref a20, .ref a21, .ref a22])), (a0, .inr (2, [.ref a11, .ref a4, .ref a23, .int 0]))] none) (by decide +kernel) (Nat.le_of_ble_eq_true rfl) ?_
  intro p e s m below meth c A ls hx hb hr hml hown hts hlocks hin hK hP hD hE hA hS hl
  have hown : s.vm.findClass RX2 = some m.cls := hown
  have hl : lv_has ls 5 [(0, .ref a0), (1, .int 0), (2, .int 0)] := hl
  have hP : va_P (dC, dI) vwCl [(a1, .inl (cI, 250, .inl (upd (fun _ => 0) 0 0))), (a2, .inl (cZ, 250, .inl (upd (fun _ => 0) 0 1))), (a3, .inl (cI, 250, .inl (upd (fun _ => 0) 0 0))), (a4, .inr (0, [.int 1, .int 1, .int 1, .ref a1, .ref a2, .ref a3, .ref a5, .ref a6, .ref a7, .int 0, .ref a8, .ref a9, .ref a10])), (a5, .inl (cI, 512, .inl (upd (fun _ => 0) 316 1))), (a11, .inr (1, [.int 0, .ref a12, .ref a13, .ref a14, .ref a15, .ref a16, .ref a17, .ref a18, .int 0, .ref a19, .ref a20, .ref a21, .ref a22])), (a0, .inr (2, [.ref a11, .ref a4, .ref a23, .int 0]))] s.heap := hP
  refine lv_iload_n hx hb dX2_bindFrom_0 rfl (lv_at hl 1 rfl) ?_
  refine lv_aload_n hx hb dX2_bindFrom_1 rfl (lv_at hl 0 rfl) ?_
  refine va_get (D := (dC, dI)) (ci := 2) (v := .ref a11) (C := RX2) (T := TX2) (N := 4) hx hb hts inX2 hown hK hP 6 rfl rfl 0 (by decide) (hts _ q151) (fun _ h9 => h9) rfl dX2_bindFrom_2 ?_
  refine va_get (D := (dC, dI)) (ci := 1) (v := .int 0) (C := RX1) (T := TX1) (N := 13) hx hb hts inX1 hown hK hP 5 rfl rfl 0 (by decide) (hts _ q32) (fun _ h9 => h9) rfl dX2_bindFrom_5 ?_
  refine lv_icmp_lt (tgt := 24) hx hb dX2_bindFrom_8 (by decide) (fun h9 => absurd h9 (by decide)) (fun _ => ?_)
  refine lv_aload_n hx hb dX2_bindFrom_11 rfl (lv_at hl 0 rfl) ?_
  refine va_get (D := (dC, dI)) (ci := 2) (v := .ref a4) (C := RX2) (T := TX2) (N := 4) hx hb hts inX2 hown hK hP 6 rfl rfl 1 (by decide) (hts _ q152) (fun _ h9 => h9) rfl dX2_bindFrom_12 ?_
  refine lv_iload_n hx hb dX2_bindFrom_15 rfl (lv_at hl 2 rfl) ?_
  refine lv_aload_n hx hb dX2_bindFrom_16 rfl (lv_at hl 0 rfl) ?_
  refine va_get (D := (dC, dI)) (ci := 2) (v := .int 0) (C := RX2) (T := TX2) (N := 4) hx hb hts inX2 hown hK hP 6 rfl rfl 3 (by decide) (hts _ q154) (fun _ h9 => h9) rfl dX2_bindFrom_17 ?_
  refine xc_V (b := a4) (wc := [(a1, .inl (cI, 250, .inl (upd (fun _ => 0) 0 0))), (a2, .inl (cZ, 250, .inl (upd (fun _ => 0) 0 1))), (a3, .inl (cI, 250, .inl (upd (fun _ => 0) 0 0))), (a4, .inr (0, [.int 1, .int 1, .int 1, .ref a1, .ref a2, .ref a3, .ref a5, .ref a6, .ref a7, .int 0, .ref a8, .ref a9, .ref a10])), (a5, .inl (cI, 512, .inl (upd (fun _ => 0) 316 1)))]) (As := [.int 0, .int 0]) (rest := []) (wr := [(a11, .inr (1, [.int 0, .ref a12, .ref a13, .ref a14, .ref a15, .ref a16, .ref a17, .ref a18, .int 0, .ref a19, .ref a20, .ref a21, .ref a22])), (a0, .inr (2, [.ref a11, .ref a4, .ref a23, .int 0]))]) ⟨hx, hb, hml, hown, hts⟩ (kX0_meet_1 l hfl dC dI cI cZ cJ cD a4 a1 a2 a3 a5 a6 a7 a8 a9 a10 _) q314 okX0_meet hP hD hK hE hS hA [0, 1, 2, 3, 4] [5, 6] rfl rfl (by decide) (by decide) (by decide) (ci := 0) rfl 3 rfl rfl rfl hl.1 rfl (Nat.le_of_ble_eq_true rfl) ⟨rfl, rfl⟩ ⟨Nat.le_of_ble_eq_true rfl, Nat.le_of_ble_eq_true rfl⟩ ⟨Nat.le_of_ble_eq_true rfl, Nat.le_of_ble_eq_true rfl⟩ dX2_bindFrom_20 (fun H locs hP hD hS => ?_)
  have hP : va_P (dC, dI) vwCl [(a11, .inr (1, [.int 0, .ref a12, .ref a13, .ref a14, .ref a15, .ref a16, .ref a17, .ref a18, .int 0, .ref a19, .ref a20, .ref a21, .ref a22])), (a0, .inr (2, [.ref a11, .ref a4, .ref a23, .int 0])), (a1, .inl (cI, 250, .inl (upd (upd (fun _ => 0) 0 0) 1 0))), (a2, .inl (cZ, 250, .inl (upd (upd (fun _ => 0) 0 1) 1 0))), (a3, .inl (cI, 250, .inl (upd (upd (fun _ => 0) 0 0) 1 1))), (a4, .inr (0, [.int 2, .int 1, .int 1, .ref a1, .ref a2, .ref a3, .ref a5, .ref a6, .ref a7, .int 0, .ref a8, .ref a9, .ref a10])), (a5, .inl (cI, 512, .inl (upd (upd (fun _ => 0) 316 1) 0 2)))] H := hP
  have hD : va_D A [(a11, .inr (1, [.int 0, .ref a12, .ref a13, .ref a14, .ref a15, .ref a16, .ref a17, .ref a18, .int 0, .ref a19, .ref a20, .ref a21, .ref a22])), (a0, .inr (2, [.ref a11, .ref a4, .ref a23, .int 0])), (a1, .inl (cI, 250, .inl (upd (upd (fun _ => 0) 0 0) 1 0))), (a2, .inl (cZ, 250, .inl (upd (upd (fun _ => 0) 0 1) 1 0))), (a3, .inl (cI, 250, .inl (upd (upd (fun _ => 0) 0 0) 1 1))), (a4, .inr (0, [.int 2, .int 1, .int 1, .ref a1, .ref a2, .ref a3, .ref a5, .ref a6, .ref a7, .int 0, .ref a8, .ref a9, .ref a10])), (a5, .inl (cI, 512, .inl (upd (upd (fun _ => 0) 316 1) 0 2)))] := hD
  refine W.eq (g2 := F0 m 23 ls []) rfl ?_
  exact xr_v hx hb hr hlocks hP hD hS [2, 3, 4, 5, 6, 0, 1] rfl (by decide) (Nat.le_of_ble_eq_true rfl) (Nat.le_of_ble_eq_true rfl) dX2_bindFrom_23
set_option maxHeartbeats 4000000 in
set_option maxRecDepth 100000 in
theorem kX2_setToFollowing_2 (l : Launch) (hfl : l.stackTraces = false) (dC : Nat → ClassId) (dI : Nat → Nat → Nat) (cI cZ cJ cD : ClassId) (a0 a1 a2 a3 a4 a5 a6 a7 a8 a9 a10 a11 a12 a13 a14 : Nat) (sz : Nat) : Met l yX2_setToFollowing (ws_ yX2_setToFollowing cX2_setToFollowing 3 none) (rm_ 1 0 0) (PC (dC, dI) (tyL cI cZ cJ cD) [(a1, .inr (1, [.int 0, .ref a2, .ref a3, .ref a4, .ref a5, .ref a6, .ref a7, .ref a8, .int 0, .ref a9, .ref a10, .ref a11, .ref a12])), (a0, .inr (2, [.ref a1, .ref a13, .ref a14, .int 1]))] sz [.ref a0, .int 1]) (QR (dC, dI) [(a1, .inr (1, [.int 0, .ref a2, .ref a3, .ref a4, .ref a5, .ref a6, .ref a7, .ref a8, .int 0, .ref a9, .ref a10, .ref a11, .ref a12])), (a0, .inr (2, [.ref a1, .ref a13, .ref a14, .int 1]))] none (va_A [(a1, .inr (1, [.int 0, .ref a2, .ref a3, .ref a4, .ref a5, .ref a6, .ref a7, .ref a8, .int 0, .ref a9, .ref a10, .ref a11, .ref a12])), (a0, .inr (2, [.ref a1, .ref a13, .ref a14, .int 1]))] sz)) 0 0 (va_A [(a1, .inr (1, [.int 0, .ref a2, .ref a3, .ref a4, .ref a5, .ref a6, .ref a7, .ref a8, .int 0, .ref a9, .ref a10, .ref a11, .ref a12])), (a0, .inr (2, [.ref a1, .ref a13, .ref a14, .int 1]))] sz) := by
  refine xm_of (QQ := QR (dC, dI) [(a1, .inr (1, [.int 0, .ref a2, .ref a3, .ref a4, .ref a5, .ref a6, .ref a7, .ref a8, .int 0, .ref a9, .ref a10, .ref a11, .ref a12])), (a0, .inr (2, [.ref a1, .ref a13, .ref a14, .int 1]))] none) (by decide +kernel) (Nat.le_of_ble_eq_true rfl) ?_
  intro p e s m below meth c A ls hx hb hr hml hown hts hlocks hin hK hP hD hE hA hS hl
  have hown : s.vm.findClass RX2 = some m.cls := hown
  have hl : lv_has ls 3 [(0, .ref a0), (1, .int 1)] := hl
  have hP : va_P (dC, dI) vwCl [(a1, .inr (1, [.int 0, .ref a2, .ref a3, .ref a4, .ref a5, .ref a6, .ref a7, .ref a8, .int 0, .ref a9, .ref a10, .ref a11, .ref a12])), (a0, .inr (2, [.ref a1, .ref a13, .ref a14, .int 1]))] s.heap := hP
  refine lv_iconst (v := 0) hx hb dX2_setToFollowing_0 (by decide) ?_
  refine lv_istore_n (lv' := [(2, .int 0), (0, .ref a0), (1, .int 1)]) hx hb dX2_setToFollowing_1 rfl hl (by decide) rfl (fun ls hl => ?_)
  refine lv_iload_n hx hb dX2_setToFollowing_2 rfl (lv_at hl 0 rfl) ?_
  refine lv_aload_n hx hb dX2_setToFollowing_3 rfl (lv_at hl 1 rfl) ?_
  refine va_get (D := (dC, dI)) (ci := 2) (v := .ref a1) (C := RX2) (T := TX2) (N := 4) hx hb hts inX2 hown hK hP 1 rfl rfl 0 (by decide) (hts _ q151) (fun _ h9 => h9) rfl dX2_setToFollowing_4 ?_
  refine va_get (D := (dC, dI)) (ci := 1) (v := .int 0) (C := RX1) (T := TX1) (N := 13) hx hb hts inX1 hown hK hP 0 rfl rfl 0 (by decide) (hts _ q32) (fun _ h9 => h9) rfl dX2_setToFollowing_7 ?_
  refine lv_icmp_ge (tgt := 116) hx hb dX2_setToFollowing_10 (by decide) (fun _ => ?_) (fun h9 => absurd (by decide) h9)
  exact xr_v hx hb hr hlocks hP hD hS [0, 1] rfl (by decide) (Nat.le_of_ble_eq_true rfl) (Nat.le_of_ble_eq_true rfl) dX2_setToFollowing_116
set_option maxHeartbeats 4000000 in
set_option maxRecDepth 100000 in
theorem kX2_codesLeft_2 (l : Launch) (hfl : l.stackTraces = false) (dC : Nat → ClassId) (dI : Nat → Nat → Nat) (cI cZ cJ cD : ClassId) (a0 a1 a2 a3 a4 a5 a6 a7 a8 a9 a10 a11 a12 a13 a14 : Nat) (sz : Nat) : Met l yX2_codesLeft (ws_ yX2_codesLeft cX2_codesLeft 3 (some .int)) (rm_ 1 0 0) (PC (dC, dI) (tyL cI cZ cJ cD) [(a1, .inr (1, [.int 0, .ref a2, .ref a3, .ref a4, .ref a5, .ref a6, .ref a7, .ref a8, .int 0, .ref a9, .ref a10, .ref a11, .ref a12])), (a0, .inr (2, [.ref a1, .ref a13, .ref a14, .int 1]))] sz [.ref a0]) (QR (dC, dI) [(a1, .inr (1, [.int 0, .ref a2, .ref a3, .ref a4, .ref a5, .ref a6, .ref a7, .ref a8, .int 0, .ref a9, .ref a10, .ref a11, .ref a12])), (a0, .inr (2, [.ref a1, .ref a13, .ref a14, .int 1]))] (some (.int 0)) (va_A [(a1, .inr (1, [.int 0, .ref a2, .ref a3, .ref a4, .ref a5, .ref a6, .ref a7, .ref a8, .int 0, .ref a9, .ref a10, .ref a11, .ref a12])), (a0, .inr (2, [.ref a1, .ref a13, .ref a14, .int 1]))] sz)) 0 0 (va_A [(a1, .inr (1, [.int 0, .ref a2, .ref a3, .ref a4, .ref a5, .ref a6, .ref a7, .ref a8, .int 0, .ref a9, .ref a10, .ref a11, .ref a12])), (a0, .inr (2, [.ref a1, .ref a13, .ref a14, .int 1]))] sz) := by
  refine xm_of (QQ := QR (dC, dI) [(a1, .inr (1, [.int 0, .ref a2, .ref a3, .ref a4, .ref a5, .ref a6, .ref a7, .ref a8, .int 0, .ref a9, .ref a10, .ref a11, .ref a12])), (a0, .inr (2, [.ref a1, .ref a13, .ref a14, .int 1]))] (some (.int 0))) (by decide +kernel) (Nat.le_of_ble_eq_true rfl) ?_
  intro p e s m below meth c A ls hx hb hr hml hown hts hlocks hin hK hP hD hE hA hS hl
  have hown : s.vm.findClass RX2 = some m.cls := hown
  have hl : lv_has ls 3 [(0, .ref a0)] := hl
  have hP : va_P (dC, dI) vwCl [(a1, .inr (1, [.int 0, .ref a2, .ref a3, .ref a4, .ref a5, .ref a6, .ref a7, .ref a8, .int 0, .ref a9, .ref a10, .ref a11, .ref a12])), (a0, .inr (2, [.ref a1, .ref a13, .ref a14, .int 1]))] s.heap := hP
  refine lv_iconst (v := 0) hx hb dX2_codesLeft_0 (by decide) ?_
  refine lv_istore_n (lv' := [(1, .int 0), (0, .ref a0)]) hx hb dX2_codesLeft_1 rfl hl (by decide) rfl (fun ls hl => ?_)
  refine lv_iconst (v := 0) hx hb dX2_codesLeft_2 (by decide) ?_
  refine lv_istore_n (lv' := [(2, .int 0), (1, .int 0), (0, .ref a0)]) hx hb dX2_codesLeft_3 rfl hl (by decide) rfl (fun ls hl => ?_)
  refine lv_iload_n hx hb dX2_codesLeft_4 rfl (lv_at hl 0 rfl) ?_
  refine lv_aload_n hx hb dX2_codesLeft_5 rfl (lv_at hl 2 rfl) ?_
  refine va_get (D := (dC, dI)) (ci := 2) (v := .ref a1) (C := RX2) (T := TX2) (N := 4) hx hb hts inX2 hown hK hP 1 rfl rfl 0 (by decide) (hts _ q151) (fun _ h9 => h9) rfl dX2_codesLeft_6 ?_
  refine va_get (D := (dC, dI)) (ci := 1) (v := .int 0) (C := RX1) (T := TX1) (N := 13) hx hb hts inX1 hown hK hP 0 rfl rfl 0 (by decide) (hts _ q32) (fun _ h9 => h9) rfl dX2_codesLeft_9 ?_
  refine lv_icmp_ge (tgt := 33) hx hb dX2_codesLeft_12 (by decide) (fun _ => ?_) (fun h9 => absurd (by decide) h9)
  refine lv_iload_n hx hb dX2_codesLeft_33 rfl (lv_at hl 1 rfl) ?_
  exact xr_i hx hb hr hlocks hP hD hS [0, 1] rfl (by decide) (Nat.le_of_ble_eq_true rfl) (Nat.le_of_ble_eq_true rfl) dX2_codesLeft_34
set_option maxHeartbeats 4000000 in
set_option maxRecDepth 100000 in
theorem kX2_narrowUntilStable_2 (l : Launch) (hfl : l.stackTraces = false) (dC : Nat → ClassId) (dI : Nat → Nat → Nat) (cI cZ cJ cD : ClassId) (a0 a1 a2 a3 a4 a5 a6 a7 a8 a9 a10 a11 a12 a13 a14 : Nat) (sz : Nat) : Met l yX2_narrowUntilStable (ws_ yX2_narrowUntilStable cX2_narrowUntilStable 4 (some .boolean)) (rm_ 2 0 0) (PC (dC, dI) (tyL cI cZ cJ cD) [(a1, .inr (1, [.int 0, .ref a2, .ref a3, .ref a4, .ref a5, .ref a6, .ref a7, .ref a8, .int 0, .ref a9, .ref a10, .ref a11, .ref a12])), (a0, .inr (2, [.ref a1, .ref a13, .ref a14, .int 1]))] sz [.ref a0]) (QR (dC, dI) [(a1, .inr (1, [.int 0, .ref a2, .ref a3, .ref a4, .ref a5, .ref a6, .ref a7, .ref a8, .int 0, .ref a9, .ref a10, .ref a11, .ref a12])), (a0, .inr (2, [.ref a1, .ref a13, .ref a14, .int 1]))] (some (.int 1)) (va_A [(a1, .inr (1, [.int 0, .ref a2, .ref a3, .ref a4, .ref a5, .ref a6, .ref a7, .ref a8, .int 0, .ref a9, .ref a10, .ref a11, .ref a12])), (a0, .inr (2, [.ref a1, .ref a13, .ref a14, .int 1]))] sz)) 0 0 (va_A [(a1, .inr (1, [.int 0, .ref a2, .ref a3, .ref a4, .ref a5, .ref a6, .ref a7, .ref a8, .int 0, .ref a9, .ref a10, .ref a11, .ref a12])), (a0, .inr (2, [.ref a1, .ref a13, .ref a14, .int 1]))] sz) := by
  refine xm_of (QQ := QR (dC, dI) [(a1, .inr (1, [.int 0, .ref a2, .ref a3, .ref a4, .ref a5, .ref a6, .ref a7, .ref a8, .int 0, .ref a9, .ref a10, .ref a11, .ref a12])), (a0, .inr (2, [.ref a1, .ref a13, .ref a14, .int 1]))] (some (.int 1))) (by decide +kernel) (Nat.le_of_ble_eq_true rfl) ?_
  intro p e s m below meth c A ls hx hb hr hml hown hts hlocks hin hK hP hD hE hA hS hl
  have hown : s.vm.findClass RX2 = some m.cls := hown
  have hl : lv_has ls 4 [(0, .ref a0)] := hl
  have hP : va_P (dC, dI) vwCl [(a1, .inr (1, [.int 0, .ref a2, .ref a3, .ref a4, .ref a5, .ref a6, .ref a7, .ref a8, .int 0, .ref a9, .ref a10, .ref a11, .ref a12])), (a0, .inr (2, [.ref a1, .ref a13, .ref a14, .int 1]))] s.heap := hP
  refine lv_iconst (v := 0) hx hb dX2_narrowUntilStable_0 (by decide) ?_
  refine lv_istore_n (lv' := [(1, .int 0), (0, .ref a0)]) hx hb dX2_narrowUntilStable_1 rfl hl (by decide) rfl (fun ls hl => ?_)
  refine lv_iload_n hx hb dX2_narrowUntilStable_2 rfl (lv_at hl 0 rfl) ?_
  refine lv_bipush (v := 84) hx hb dX2_narrowUntilStable_3 (by decide) ?_
  refine lv_icmp_ge (tgt := 59) hx hb dX2_narrowUntilStable_5 (by decide) (fun h9 => absurd h9 (by decide)) (fun _ => ?_)
  refine lv_aload_n hx hb dX2_narrowUntilStable_8 rfl (lv_at hl 1 rfl) ?_
  refine xc_V (b := a0) (wc := [(a1, .inr (1, [.int 0, .ref a2, .ref a3, .ref a4, .ref a5, .ref a6, .ref a7, .ref a8, .int 0, .ref a9, .ref a10, .ref a11, .ref a12])), (a0, .inr (2, [.ref a1, .ref a13, .ref a14, .int 1]))]) (As := []) (rest := []) (wr := []) ⟨hx, hb, hml, hown, hts⟩ (kX2_codesLeft_2 l hfl dC dI cI cZ cJ cD a0 a1 a2 a3 a4 a5 a6 a7 a8 a9 a10 a11 a12 a13 a14 _) q242 okX2_codesLeft hP hD hK hE hS hA [0, 1] [] rfl rfl (by decide) (by decide) (by decide) (ci := 2) rfl 1 rfl rfl rfl hl.1 rfl (Nat.le_of_ble_eq_true rfl) ⟨rfl, rfl⟩ ⟨Nat.le_of_ble_eq_true rfl, Nat.le_of_ble_eq_true rfl⟩ ⟨Nat.le_of_ble_eq_true rfl, Nat.le_of_ble_eq_true rfl⟩ dX2_narrowUntilStable_9 (fun H locs hP hD hS => ?_)
  have hP : va_P (dC, dI) vwCl [(a1, .inr (1, [.int 0, .ref a2, .ref a3, .ref a4, .ref a5, .ref a6, .ref a7, .ref a8, .int 0, .ref a9, .ref a10, .ref a11, .ref a12])), (a0, .inr (2, [.ref a1, .ref a13, .ref a14, .int 1]))] H := hP
  have hD : va_D A [(a1, .inr (1, [.int 0, .ref a2, .ref a3, .ref a4, .ref a5, .ref a6, .ref a7, .ref a8, .int 0, .ref a9, .ref a10, .ref a11, .ref a12])), (a0, .inr (2, [.ref a1, .ref a13, .ref a14, .int 1]))] := hD
  refine W.eq (g2 := F0 m 12 ls [.int 0]) rfl ?_
  refine lv_istore_n (lv' := [(2, .int 0), (1, .int 0), (0, .ref a0)]) hx hb dX2_narrowUntilStable_12 rfl hl (by decide) rfl (fun ls hl => ?_)
  refine lv_iconst (v := 0) hx hb dX2_narrowUntilStable_13 (by decide) ?_
  refine lv_istore_n (lv' := [(3, .int 0), (2, .int 0), (1, .int 0), (0, .ref a0)]) hx hb dX2_narrowUntilStable_14 rfl hl (by decide) rfl (fun ls hl => ?_)
  refine lv_iload_n hx hb dX2_narrowUntilStable_15 rfl (lv_at hl 0 rfl) ?_
  refine lv_aload_n hx hb dX2_narrowUntilStable_16 rfl (lv_at hl 3 rfl) ?_
  refine va_get (D := (dC, dI)) (ci := 2) (v := .ref a1) (C := RX2) (T := TX2) (N := 4) hx hb hts inX2 hown hK hP 1 rfl rfl 0 (by decide) (hts _ q151) (fun _ h9 => h9) rfl dX2_narrowUntilStable_17 ?_
  refine va_get (D := (dC, dI)) (ci := 1) (v := .int 0) (C := RX1) (T := TX1) (N := 13) hx hb hts inX1 hown hK hP 0 rfl rfl 8 (by decide) (hts _ q46) (fun _ h9 => h9) rfl dX2_narrowUntilStable_20 ?_
  refine lv_icmp_ge (tgt := 43) hx hb dX2_narrowUntilStable_23 (by decide) (fun _ => ?_) (fun h9 => absurd (by decide) h9)
  refine lv_aload_n hx hb dX2_narrowUntilStable_43 rfl (lv_at hl 3 rfl) ?_
  refine xc_V (b := a0) (wc := [(a1, .inr (1, [.int 0, .ref a2, .ref a3, .ref a4, .ref a5, .ref a6, .ref a7, .ref a8, .int 0, .ref a9, .ref a10, .ref a11, .ref a12])), (a0, .inr (2, [.ref a1, .ref a13, .ref a14, .int 1]))]) (As := []) (rest := []) (wr := []) ⟨hx, hb, hml, hown, hts⟩ (kX2_codesLeft_2 l hfl dC dI cI cZ cJ cD a0 a1 a2 a3 a4 a5 a6 a7 a8 a9 a10 a11 a12 a13 a14 _) q242 okX2_codesLeft hP hD hK hE hS hA [0, 1] [] rfl rfl (by decide) (by decide) (by decide) (ci := 2) rfl 1 rfl rfl rfl hl.1 rfl (Nat.le_of_ble_eq_true rfl) ⟨rfl, rfl⟩ ⟨Nat.le_of_ble_eq_true rfl, Nat.le_of_ble_eq_true rfl⟩ ⟨Nat.le_of_ble_eq_true rfl, Nat.le_of_ble_eq_true rfl⟩ dX2_narrowUntilStable_44 (fun H locs hP hD hS => ?_)
  have hP : va_P (dC, dI) vwCl [(a1, .inr (1, [.int 0, .ref a2, .ref a3, .ref a4, .ref a5, .ref a6, .ref a7, .ref a8, .int 0, .ref a9, .ref a10, .ref a11, .ref a12])), (a0, .inr (2, [.ref a1, .ref a13, .ref a14, .int 1]))] H := hP
  have hD : va_D A [(a1, .inr (1, [.int 0, .ref a2, .ref a3, .ref a4, .ref a5, .ref a6, .ref a7, .ref a8, .int 0, .ref a9, .ref a10, .ref a11, .ref a12])), (a0, .inr (2, [.ref a1, .ref a13, .ref a14, .int 1]))] := hD
  refine W.eq (g2 := F0 m 47 ls [.int 0]) rfl ?_
  refine lv_iload_n hx hb dX2_narrowUntilStable_47 rfl (lv_at hl 1 rfl) ?_
  refine lv_icmp_ne (tgt := 53) hx hb dX2_narrowUntilStable_48 (by decide) (fun h9 => absurd (by decide) h9) (fun _ => ?_)
  refine lv_iconst (v := 1) hx hb dX2_narrowUntilStable_51 (by decide) ?_
  exact xr_z hx hb hr hlocks hP hD hS [0, 1] rfl (by decide) rfl (Nat.le_of_ble_eq_true rfl) (Nat.le_of_ble_eq_true rfl) dX2_narrowUntilStable_52
set_option maxHeartbeats 4000000 in
set_option maxRecDepth 100000 in
theorem kX0_meet_2 (l : Launch) (hfl : l.stackTraces = false) (dC : Nat → ClassId) (dI : Nat → Nat → Nat) (cI cZ cJ cD : ClassId) (a0 a1 a2 a3 a4 a5 a6 a7 a8 a9 : Nat) (sz : Nat) : Met l yX0_meet (ws_ yX0_meet cX0_meet 7 none) (rm_ 1 0 0) (PC (dC, dI) (tyL cI cZ cJ cD) [(a1, .inl (cI, 250, .inl (upd (upd (fun _ => 0) 0 0) 1 0))), (a2, .inl (cZ, 250, .inl (upd (upd (fun _ => 0) 0 1) 1 0))), (a0, .inr (0, [.int 2, .int 1, .int 1, .ref a1, .ref a2, .ref a3, .ref a4, .ref a5, .ref a6, .int 0, .ref a7, .ref a8, .ref a9]))] sz [.ref a0, .int 0, .int 1]) (QR (dC, dI) [(a1, .inl (cI, 250, .inl (upd (upd (fun _ => 0) 0 0) 1 0))), (a2, .inl (cZ, 250, .inl (upd (upd (fun _ => 0) 0 1) 1 0))), (a0, .inr (0, [.int 2, .int 1, .int 1, .ref a1, .ref a2, .ref a3, .ref a4, .ref a5, .ref a6, .int 0, .ref a7, .ref a8, .ref a9]))] none (va_A [(a1, .inl (cI, 250, .inl (upd (upd (fun _ => 0) 0 0) 1 0))), (a2, .inl (cZ, 250, .inl (upd (upd (fun _ => 0) 0 1) 1 0))), (a0, .inr (0, [.int 2, .int 1, .int 1, .ref a1, .ref a2, .ref a3, .ref a4, .ref a5, .ref a6, .int 0, .ref a7, .ref a8, .ref a9]))] sz)) 0 0 (va_A [(a1, .inl (cI, 250, .inl (upd (upd (fun _ => 0) 0 0) 1 0))), (a2, .inl (cZ, 250, .inl (upd (upd (fun _ => 0) 0 1) 1 0))), (a0, .inr (0, [.int 2, .int 1, .int 1, .ref a1, .ref a2, .ref a3, .ref a4, .ref a5, .ref a6, .int 0, .ref a7, .ref a8, .ref a9]))] sz) := by
  refine xm_of (QQ := QR (dC, dI) [(a1, .inl (cI, 250, .inl (upd (upd (fun _ => 0) 0 0) 1 0))), (a2, .inl (cZ, 250, .inl (upd (upd (fun _ => 0) 0 1) 1 0))), (a0, .inr (0, [.int 2, .int 1, .int 1, .ref a1, .ref a2, .ref a3, .ref a4, .ref a5, .ref a6, .int 0, .ref a7, .ref a8, .ref a9]))] none) (by decide +kernel) (Nat.le_of_ble_eq_true rfl) ?_
  intro p e s m below meth c A ls hx hb hr hml hown hts hlocks hin hK hP hD hE hA hS hl
  have hown : s.vm.findClass RX0 = some m.cls := hown
  have hl : lv_has ls 7 [(0, .ref a0), (1, .int 0), (2, .int 1)] := hl
  have hP : va_P (dC, dI) vwCl [(a1, .inl (cI, 250, .inl (upd (upd (fun _ => 0) 0 0) 1 0))), (a2, .inl (cZ, 250, .inl (upd (upd (fun _ => 0) 0 1) 1 0))), (a0, .inr (0, [.int 2, .int 1, .int 1, .ref a1, .ref a2, .ref a3, .ref a4, .ref a5, .ref a6, .int 0, .ref a7, .ref a8, .ref a9]))] s.heap := hP
  refine lv_iload_n hx hb dX0_meet_0 rfl (lv_at hl 2 rfl) ?_
  refine lv_if_lt (tgt := 13) hx hb dX0_meet_1 (by decide) (fun h9 => absurd h9 (by decide)) (fun _ => ?_)
  refine lv_aload_n hx hb dX0_meet_4 rfl (lv_at hl 0 rfl) ?_
  refine va_get (D := (dC, dI)) (ci := 0) (v := .ref a2) (C := RX0) (T := TX0) (N := 13) hx hb hts inX0 hown hK hP 2 rfl rfl 4 (by decide) (hts _ q102) (fun _ h9 => h9) rfl dX0_meet_5 ?_
  refine lv_iload_n hx hb dX0_meet_8 rfl (lv_at hl 2 rfl) ?_
  refine xa_zald (k := 1) (v := 0) hx hb hK hP 1 1 rfl rfl (by decide) (by decide +kernel) (Nat.le_of_ble_eq_true rfl) rfl dX0_meet_9 ?_
  refine lv_if_ne (tgt := 17) hx hb dX0_meet_10 (by decide) (fun h9 => absurd (by decide) h9) (fun _ => ?_)
  refine lv_iconst (v := 1) hx hb dX0_meet_13 (by decide) ?_
  refine lv_goto (tgt := 18) hx hb dX0_meet_14 (by decide) ?_
  refine lv_istore_n (lv' := [(3, .int 1), (0, .ref a0), (1, .int 0), (2, .int 1)]) hx hb dX0_meet_18 rfl hl (by decide) rfl (fun ls hl => ?_)
  refine lv_iload_n hx hb dX0_meet_19 rfl (lv_at hl 0 rfl) ?_
  refine lv_if_eq (tgt := 38) hx hb dX0_meet_20 (by decide) (fun h9 => absurd h9 (by decide)) (fun _ => ?_)
  refine lv_iload_n hx hb dX0_meet_23 rfl (lv_at hl 3 rfl) ?_
  refine lv_if_lt (tgt := 38) hx hb dX0_meet_24 (by decide) (fun h9 => absurd h9 (by decide)) (fun _ => ?_)
  refine lv_aload_n hx hb dX0_meet_27 rfl (lv_at hl 1 rfl) ?_
  refine va_get (D := (dC, dI)) (ci := 0) (v := .ref a1) (C := RX0) (T := TX0) (N := 13) hx hb hts inX0 hown hK hP 2 rfl rfl 3 (by decide) (hts _ q99) (fun _ h9 => h9) rfl dX0_meet_28 ?_
  refine lv_iload_n hx hb dX0_meet_31 rfl (lv_at hl 3 rfl) ?_
  refine xa_iald (k := 1) (v := 0) hx hb hK hP 0 0 rfl rfl (by decide) (by decide +kernel) (Nat.le_of_ble_eq_true rfl) rfl dX0_meet_32 ?_
  refine lv_iload_n hx hb dX0_meet_33 rfl (lv_at hl 2 rfl) ?_
  refine lv_icmp_ne (tgt := 38) hx hb dX0_meet_34 (by decide) (fun h9 => absurd (by decide) h9) (fun _ => ?_)
  exact xr_v hx hb hr hlocks hP hD hS [0, 1, 2] rfl (by decide) (Nat.le_of_ble_eq_true rfl) (Nat.le_of_ble_eq_true rfl) dX0_meet_37
set_option maxHeartbeats 4000000 in
set_option maxRecDepth 100000 in
theorem kX2_bindFrom_2 (l : Launch) (hfl : l.stackTraces = false) (dC : Nat → ClassId) (dI : Nat → Nat → Nat) (cI cZ cJ cD : ClassId) (a0 a1 a2 a3 a4 a5 a6 a7 a8 a9 a10 a11 a12 a13 a14 a15 a16 a17 a18 a19 a20 a21 a22 a23 : Nat) (sz : Nat) : Met l yX2_bindFrom (ws_ yX2_bindFrom cX2_bindFrom 5 none) (rm_ 2 0 0) (PC (dC, dI) (tyL cI cZ cJ cD) [(a1, .inl (cI, 250, .inl (upd (upd (fun _ => 0) 0 0) 1 0))), (a2, .inl (cZ, 250, .inl (upd (upd (fun _ => 0) 0 1) 1 0))), (a3, .inr (0, [.int 2, .int 1, .int 1, .ref a1, .ref a2, .ref a4, .ref a5, .ref a6, .ref a7, .int 0, .ref a8, .ref a9, .ref a10])), (a11, .inr (1, [.int 0, .ref a12, .ref a13, .ref a14, .ref a15, .ref a16, .ref a17, .ref a18, .int 0, .ref a19, .ref a20, .ref a21, .ref a22])), (a0, .inr (2, [.ref a11, .ref a3, .ref a23, .int 1]))] sz [.ref a0, .int 0, .int 0]) (QR (dC, dI) [(a1, .inl (cI, 250, .inl (upd (upd (fun _ => 0) 0 0) 1 0))), (a2, .inl (cZ, 250, .inl (upd (upd (fun _ => 0) 0 1) 1 0))), (a3, .inr (0, [.int 2, .int 1, .int 1, .ref a1, .ref a2, .ref a4, .ref a5, .ref a6, .ref a7, .int 0, .ref a8, .ref a9, .ref a10])), (a11, .inr (1, [.int 0, .ref a12, .ref a13, .ref a14, .ref a15, .ref a16, .ref a17, .ref a18, .int 0, .ref a19, .ref a20, .ref a21, .ref a22])), (a0, .inr (2, [.ref a11, .ref a3, .ref a23, .int 1]))] none (va_A [(a1, .inl (cI, 250, .inl (upd (upd (fun _ => 0) 0 0) 1 0))), (a2, .inl (cZ, 250, .inl (upd (upd (fun _ => 0) 0 1) 1 0))), (a3, .inr (0, [.int 2, .int 1, .int 1, .ref a1, .ref a2, .ref a4, .ref a5, .ref a6, .ref a7, .int 0, .ref a8, .ref a9, .ref a10])), (a11, .inr (1, [.int 0, .ref a12, .ref a13, .ref a14, .ref a15, .ref a16, .ref a17, .ref a18, .int 0, .ref a19, .ref a20, .ref a21, .ref a22])), (a0, .inr (2, [.ref a11, .ref a3, .ref a23, .int 1]))] sz)) 0 0 (va_A [(a1, .inl (cI, 250, .inl (upd (upd (fun _ => 0) 0 0) 1 0))), (a2, .inl (cZ, 250, .inl (upd (upd (fun _ => 0) 0 1) 1 0))), (a3, .inr (0, [.int 2, .int 1, .int 1, .ref a1, .ref a2, .ref a4, .ref a5, .ref a6, .ref a7, .int 0, .ref a8, .ref a9, .ref a10])), (a11, .inr (1, [.int 0, .ref a12, .ref a13, .ref a14, .ref a15, .ref a16, .ref a17, .ref a18, .int 0, .ref a19, .ref a20, .ref a21, .ref a22])), (a0, .inr (2, [.ref a11, .ref a3, .ref a23, .int 1]))] sz) := by
  refine xm_of (QQ := QR (dC, dI) [(a1, .inl (cI, 250, .inl (upd (upd (fun _ => 0) 0 0) 1 0))), (a2, .inl (cZ, 250, .inl (upd (upd (fun _ => 0) 0 1) 1 0))), (a3, .inr (0, [.int 2, .int 1, .int 1, .ref a1, .ref a2, .ref a4, .ref a5, .ref a6, .ref a7, .int 0, .ref a8, .ref a9, .ref a10])), (a11, .inr (1, [.int 0, .ref a12, .ref a13, .ref a14, .ref a15, .ref a16, .ref a17, .ref a18, .int 0, .ref a19, .ref a20, .ref a21, .ref a22])), (a0, .inr (2, [.ref a11, .ref a3, .ref a23, .int 1]))] none) (by decide +kernel) (Nat.le_of_ble_eq_true rfl) ?_
  intro p e s m below meth c A ls hx hb hr hml hown hts hlocks hin hK hP hD hE hA hS hl
  have hown : s.vm.findClass RX2 = some m.cls := hown
  have hl : lv_has ls 5 [(0, .ref a0), (1, .int 0), (2, .int 0)] := hl
  have hP : va_P (dC, dI) vwCl [(a1, .inl (cI, 250, .inl (upd (upd (fun _ => 0) 0 0) 1 0))), (a2, .inl (cZ, 250, .inl (upd (upd (fun _ => 0) 0 1) 1 0))), (a3, .inr (0, [.int 2, .int 1, .int 1, .ref a1, .ref a2, .ref a4, .ref a5, .ref a6, .ref a7, .int 0, .ref a8, .ref a9, .ref a10])), (a11, .inr (1, [.int 0, .ref a12, .ref a13, .ref a14, .ref a15, .ref a16, .ref a17, .ref a18, .int 0, .ref a19, .ref a20, .ref a21, .ref a22])), (a0, .inr (2, [.ref a11, .ref a3, .ref a23, .int 1]))] s.heap := hP
  refine lv_iload_n hx hb dX2_bindFrom_0 rfl (lv_at hl 1 rfl) ?_
  refine lv_aload_n hx hb dX2_bindFrom_1 rfl (lv_at hl 0 rfl) ?_
  refine va_get (D := (dC, dI)) (ci := 2) (v := .ref a11) (C := RX2) (T := TX2) (N := 4) hx hb hts inX2 hown hK hP 4 rfl rfl 0 (by decide) (hts _ q151) (fun _ h9 => h9) rfl dX2_bindFrom_2 ?_
  refine va_get (D := (dC, dI)) (ci := 1) (v := .int 0) (C := RX1) (T := TX1) (N := 13) hx hb hts inX1 hown hK hP 3 rfl rfl 0 (by decide) (hts _ q32) (fun _ h9 => h9) rfl dX2_bindFrom_5 ?_
  refine lv_icmp_lt (tgt := 24) hx hb dX2_bindFrom_8 (by decide) (fun h9 => absurd h9 (by decide)) (fun _ => ?_)
  refine lv_aload_n hx hb dX2_bindFrom_11 rfl (lv_at hl 0 rfl) ?_
  refine va_get (D := (dC, dI)) (ci := 2) (v := .ref a3) (C := RX2) (T := TX2) (N := 4) hx hb hts inX2 hown hK hP 4 rfl rfl 1 (by decide) (hts _ q152) (fun _ h9 => h9) rfl dX2_bindFrom_12 ?_
  refine lv_iload_n hx hb dX2_bindFrom_15 rfl (lv_at hl 2 rfl) ?_
  refine lv_aload_n hx hb dX2_bindFrom_16 rfl (lv_at hl 0 rfl) ?_
  refine va_get (D := (dC, dI)) (ci := 2) (v := .int 1) (C := RX2) (T := TX2) (N := 4) hx hb hts inX2 hown hK hP 4 rfl rfl 3 (by decide) (hts _ q154) (fun _ h9 => h9) rfl dX2_bindFrom_17 ?_
  refine xc_V (b := a3) (wc := [(a1, .inl (cI, 250, .inl (upd (upd (fun _ => 0) 0 0) 1 0))), (a2, .inl (cZ, 250, .inl (upd (upd (fun _ => 0) 0 1) 1 0))), (a3, .inr (0, [.int 2, .int 1, .int 1, .ref a1, .ref a2, .ref a4, .ref a5, .ref a6, .ref a7, .int 0, .ref a8, .ref a9, .ref a10]))]) (As := [.int 0, .int 1]) (rest := []) (wr := [(a11, .inr (1, [.int 0, .ref a12, .ref a13, .ref a14, .ref a15, .ref a16, .ref a17, .ref a18, .int 0, .ref a19, .ref a20, .ref a21, .ref a22])), (a0, .inr (2, [.ref a11, .ref a3, .ref a23, .int 1]))]) ⟨hx, hb, hml, hown, hts⟩ (kX0_meet_2 l hfl dC dI cI cZ cJ cD a3 a1 a2 a4 a5 a6 a7 a8 a9 a10 _) q314 okX0_meet hP hD hK hE hS hA [0, 1, 2] [3, 4] rfl rfl (by decide) (by decide) (by decide) (ci := 0) rfl 2 rfl rfl rfl hl.1 rfl (Nat.le_of_ble_eq_true rfl) ⟨rfl, rfl⟩ ⟨Nat.le_of_ble_eq_true rfl, Nat.le_of_ble_eq_true rfl⟩ ⟨Nat.le_of_ble_eq_true rfl, Nat.le_of_ble_eq_true rfl⟩ dX2_bindFrom_20 (fun H locs hP hD hS => ?_)
  have hP : va_P (dC, dI) vwCl [(a11, .inr (1, [.int 0, .ref a12, .ref a13, .ref a14, .ref a15, .ref a16, .ref a17, .ref a18, .int 0, .ref a19, .ref a20, .ref a21, .ref a22])), (a0, .inr (2, [.ref a11, .ref a3, .ref a23, .int 1])), (a1, .inl (cI, 250, .inl (upd (upd (fun _ => 0) 0 0) 1 0))), (a2, .inl (cZ, 250, .inl (upd (upd (fun _ => 0) 0 1) 1 0))), (a3, .inr (0, [.int 2, .int 1, .int 1, .ref a1, .ref a2, .ref a4, .ref a5, .ref a6, .ref a7, .int 0, .ref a8, .ref a9, .ref a10]))] H := hP
  have hD : va_D A [(a11, .inr (1, [.int 0, .ref a12, .ref a13, .ref a14, .ref a15, .ref a16, .ref a17, .ref a18, .int 0, .ref a19, .ref a20, .ref a21, .ref a22])), (a0, .inr (2, [.ref a11, .ref a3, .ref a23, .int 1])), (a1, .inl (cI, 250, .inl (upd (upd (fun _ => 0) 0 0) 1 0))), (a2, .inl (cZ, 250, .inl (upd (upd (fun _ => 0) 0 1) 1 0))), (a3, .inr (0, [.int 2, .int 1, .int 1, .ref a1, .ref a2, .ref a4, .ref a5, .ref a6, .ref a7, .int 0, .ref a8, .ref a9, .ref a10]))] := hD
  refine W.eq (g2 := F0 m 23 ls []) rfl ?_
  exact xr_v hx hb hr hlocks hP hD hS [2, 3, 4, 0, 1] rfl (by decide) (Nat.le_of_ble_eq_true rfl) (Nat.le_of_ble_eq_true rfl) dX2_bindFrom_23
set_option maxHeartbeats 4000000 in
set_option maxRecDepth 100000 in
theorem kX2_setToFollowing_3 (l : Launch) (hfl : l.stackTraces = false) (dC : Nat → ClassId) (dI : Nat → Nat → Nat) (cI cZ cJ cD : ClassId) (a0 a1 a2 a3 a4 a5 a6 a7 a8 a9 a10 a11 a12 a13 a14 : Nat) (sz : Nat) : Met l yX2_setToFollowing (ws_ yX2_setToFollowing cX2_setToFollowing 3 none) (rm_ 1 0 0) (PC (dC, dI) (tyL cI cZ cJ cD) [(a1, .inr (1, [.int 0, .ref a2, .ref a3, .ref a4, .ref a5, .ref a6, .ref a7, .ref a8, .int 0, .ref a9, .ref a10, .ref a11, .ref a12])), (a0, .inr (2, [.ref a1, .ref a13, .ref a14, .int 1]))] sz [.ref a0, .int 0]) (QR (dC, dI) [(a1, .inr (1, [.int 0, .ref a2, .ref a3, .ref a4, .ref a5, .ref a6, .ref a7, .ref a8, .int 0, .ref a9, .ref a10, .ref a11, .ref a12])), (a0, .inr (2, [.ref a1, .ref a13, .ref a14, .int 1]))] none (va_A [(a1, .inr (1, [.int 0, .ref a2, .ref a3, .ref a4, .ref a5, .ref a6, .ref a7, .ref a8, .int 0, .ref a9, .ref a10, .ref a11, .ref a12])), (a0, .inr (2, [.ref a1, .ref a13, .ref a14, .int 1]))] sz)) 0 0 (va_A [(a1, .inr (1, [.int 0, .ref a2, .ref a3, .ref a4, .ref a5, .ref a6, .ref a7, .ref a8, .int 0, .ref a9, .ref a10, .ref a11, .ref a12])), (a0, .inr (2, [.ref a1, .ref a13, .ref a14, .int 1]))] sz) := by
  refine xm_of (QQ := QR (dC, dI) [(a1, .inr (1, [.int 0, .ref a2, .ref a3, .ref a4, .ref a5, .ref a6, .ref a7, .ref a8, .int 0, .ref a9, .ref a10, .ref a11, .ref a12])), (a0, .inr (2, [.ref a1, .ref a13, .ref a14, .int 1]))] none) (by decide +kernel) (Nat.le_of_ble_eq_true rfl) ?_
  intro p e s m below meth c A ls hx hb hr hml hown hts hlocks hin hK hP hD hE hA hS hl
  have hown : s.vm.findClass RX2 = some m.cls := hown
  have hl : lv_has ls 3 [(0, .ref a0), (1, .int 0)] := hl
  have hP : va_P (dC, dI) vwCl [(a1, .inr (1, [.int 0, .ref a2, .ref a3, .ref a4, .ref a5, .ref a6, .ref a7, .ref a8, .int 0, .ref a9, .ref a10, .ref a11, .ref a12])), (a0, .inr (2, [.ref a1, .ref a13, .ref a14, .int 1]))] s.heap := hP
  refine lv_iconst (v := 0) hx hb dX2_setToFollowing_0 (by decide) ?_
  refine lv_istore_n (lv' := [(2, .int 0), (0, .ref a0), (1, .int 0)]) hx hb dX2_setToFollowing_1 rfl hl (by decide) rfl (fun ls hl => ?_)
  refine lv_iload_n hx hb dX2_setToFollowing_2 rfl (lv_at hl 0 rfl) ?_
  refine lv_aload_n hx hb dX2_setToFollowing_3 rfl (lv_at hl 1 rfl) ?_
  refine va_get (D := (dC, dI)) (ci := 2) (v := .ref a1) (C := RX2) (T := TX2) (N := 4) hx hb hts inX2 hown hK hP 1 rfl rfl 0 (by decide) (hts _ q151) (fun _ h9 => h9) rfl dX2_setToFollowing_4 ?_
  refine va_get (D := (dC, dI)) (ci := 1) (v := .int 0) (C := RX1) (T := TX1) (N := 13) hx hb hts inX1 hown hK hP 0 rfl rfl 0 (by decide) (hts _ q32) (fun _ h9 => h9) rfl dX2_setToFollowing_7 ?_
  refine lv_icmp_ge (tgt := 116) hx hb dX2_setToFollowing_10 (by decide) (fun _ => ?_) (fun h9 => absurd (by decide) h9)
  exact xr_v hx hb hr hlocks hP hD hS [0, 1] rfl (by decide) (Nat.le_of_ble_eq_true rfl) (Nat.le_of_ble_eq_true rfl) dX2_setToFollowing_116
set_option maxHeartbeats 4000000 in
set_option maxRecDepth 100000 in
theorem kX0_beginLinks_0 (l : Launch) (hfl : l.stackTraces = false) (dC : Nat → ClassId) (dI : Nat → Nat → Nat) (cI cZ cJ cD : ClassId) (a0 a1 a2 a3 a4 a5 a6 a7 a8 a9 : Nat) (sz : Nat) : Met l yX0_beginLinks (ws_ yX0_beginLinks cX0_beginLinks 2 none) (rm_ 1 0 0) (PC (dC, dI) (tyL cI cZ cJ cD) [(a1, .inl (cI, 251, .inl (fun _ => 0))), (a2, .inl (cI, 1024, .inl (fun _ => 0))), (a0, .inr (0, [.int 2, .int 1, .int 1, .ref a3, .ref a4, .ref a5, .ref a6, .ref a1, .ref a2, .int 0, .ref a7, .ref a8, .ref a9]))] sz [.ref a0, .int 0]) (QR (dC, dI) [(a1, .inl (cI, 251, .inl (upd (fun _ => 0) 0 0))), (a2, .inl (cI, 1024, .inl (fun _ => 0))), (a0, .inr (0, [.int 2, .int 1, .int 1, .ref a3, .ref a4, .ref a5, .ref a6, .ref a1, .ref a2, .int 0, .ref a7, .ref a8, .ref a9]))] none (va_A [(a1, .inl (cI, 251, .inl (fun _ => 0))), (a2, .inl (cI, 1024, .inl (fun _ => 0))), (a0, .inr (0, [.int 2, .int 1, .int 1, .ref a3, .ref a4, .ref a5, .ref a6, .ref a1, .ref a2, .int 0, .ref a7, .ref a8, .ref a9]))] sz)) 0 0 (va_A [(a1, .inl (cI, 251, .inl (fun _ => 0))), (a2, .inl (cI, 1024, .inl (fun _ => 0))), (a0, .inr (0, [.int 2, .int 1, .int 1, .ref a3, .ref a4, .ref a5, .ref a6, .ref a1, .ref a2, .int 0, .ref a7, .ref a8, .ref a9]))] sz) := by
  refine xm_of (QQ := QR (dC, dI) [(a1, .inl (cI, 251, .inl (upd (fun _ => 0) 0 0))), (a2, .inl (cI, 1024, .inl (fun _ => 0))), (a0, .inr (0, [.int 2, .int 1, .int 1, .ref a3, .ref a4, .ref a5, .ref a6, .ref a1, .ref a2, .int 0, .ref a7, .ref a8, .ref a9]))] none) (by decide +kernel) (Nat.le_of_ble_eq_true rfl) ?_
  intro p e s m below meth c A ls hx hb hr hml hown hts hlocks hin hK hP hD hE hA hS hl
  have hown : s.vm.findClass RX0 = some m.cls := hown
  have hl : lv_has ls 2 [(0, .ref a0), (1, .int 0)] := hl
  have hP : va_P (dC, dI) vwCl [(a1, .inl (cI, 251, .inl (fun _ => 0))), (a2, .inl (cI, 1024, .inl (fun _ => 0))), (a0, .inr (0, [.int 2, .int 1, .int 1, .ref a3, .ref a4, .ref a5, .ref a6, .ref a1, .ref a2, .int 0, .ref a7, .ref a8, .ref a9]))] s.heap := hP
  refine lv_aload_n hx hb dX0_beginLinks_0 rfl (lv_at hl 0 rfl) ?_
  refine va_get (D := (dC, dI)) (ci := 0) (v := .ref a1) (C := RX0) (T := TX0) (N := 13) hx hb hts inX0 hown hK hP 2 rfl rfl 7 (by decide) (hts _ q108) (fun _ h9 => h9) rfl dX0_beginLinks_1 ?_
  refine lv_iload_n hx hb dX0_beginLinks_4 rfl (lv_at hl 1 rfl) ?_
  refine lv_aload_n hx hb dX0_beginLinks_5 rfl (lv_at hl 0 rfl) ?_
  refine va_get (D := (dC, dI)) (ci := 0) (v := .int 0) (C := RX0) (T := TX0) (N := 13) hx hb hts inX0 hown hK hP 2 rfl rfl 9 (by decide) (hts _ q112) (fun _ h9 => h9) rfl dX0_beginLinks_6 ?_
  refine xa_iast (k := 0) (w1 := [(a1, .inl (cI, 251, .inl (upd (fun _ => 0) 0 0))), (a2, .inl (cI, 1024, .inl (fun _ => 0))), (a0, .inr (0, [.int 2, .int 1, .int 1, .ref a3, .ref a4, .ref a5, .ref a6, .ref a1, .ref a2, .int 0, .ref a7, .ref a8, .ref a9]))]) hx hb hK hP hD hS 0 0 rfl rfl (by decide) (by decide +kernel) (Nat.le_of_ble_eq_true rfl) rfl dX0_beginLinks_9 (fun H locs hP hD hS => ?_)
  refine lv_aload_n hx hb dX0_beginLinks_10 rfl (lv_at hl 0 rfl) ?_
  refine va_get (D := (dC, dI)) (ci := 0) (v := .ref a2) (C := RX0) (T := TX0) (N := 13) hx hb hts inX0 hown hK hP 2 rfl rfl 8 (by decide) (hts _ q110) (fun _ h9 => h9) rfl dX0_beginLinks_11 ?_
  refine va_alen (v := 1024) hx hb hK hP 1 0 rfl rfl (by decide +kernel) dX0_beginLinks_14 ?_
  refine lv_aload_n hx hb dX0_beginLinks_15 rfl (lv_at hl 0 rfl) ?_
  refine va_get (D := (dC, dI)) (ci := 0) (v := .int 0) (C := RX0) (T := TX0) (N := 13) hx hb hts inX0 hown hK hP 2 rfl rfl 9 (by decide) (hts _ q112) (fun _ h9 => h9) rfl dX0_beginLinks_16 ?_
  refine lv_isub hx hb dX0_beginLinks_19 ?_
  refine tI (v := 1024) (by decide +kernel) ?_
  refine lv_sipush (v := 250) hx hb dX0_beginLinks_20 (by decide) ?_
  refine lv_icmp_ge (tgt := 44) hx hb dX0_beginLinks_23 (by decide) (fun _ => ?_) (fun h9 => absurd (by decide) h9)
  exact xr_v hx hb hr hlocks hP hD hS [0, 1, 2] rfl (by decide) (Nat.le_of_ble_eq_true rfl) (Nat.le_of_ble_eq_true rfl) dX0_beginLinks_44
set_option maxHeartbeats 4000000 in
set_option maxRecDepth 100000 in
theorem kX2_canFollow_0 (l : Launch) (hfl : l.stackTraces = false) (dC : Nat → ClassId) (dI : Nat → Nat → Nat) (cI cZ cJ cD : ClassId) (a0 a1 a2 a3 a4 a5 a6 a7 a8 a9 a10 a11 a12 : Nat) (sz : Nat) : Met l yX2_canFollow (ws_ yX2_canFollow cX2_canFollow 5 (some .boolean)) (rm_ 1 0 0) (PC (dC, dI) (tyL cI cZ cJ cD) [(a1, .inl (cZ, 250, .inl (upd (upd (fun _ => 0) 0 1) 1 0))), (a0, .inr (2, [.ref a2, .ref a3, .ref a4, .int 1])), (a3, .inr (0, [.int 2, .int 1, .int 1, .ref a5, .ref a1, .ref a6, .ref a7, .ref a8, .ref a9, .int 0, .ref a10, .ref a11, .ref a12]))] sz [.ref a0, .int 0, .int 0]) (QR (dC, dI) [(a1, .inl (cZ, 250, .inl (upd (upd (fun _ => 0) 0 1) 1 0))), (a0, .inr (2, [.ref a2, .ref a3, .ref a4, .int 1])), (a3, .inr (0, [.int 2, .int 1, .int 1, .ref a5, .ref a1, .ref a6, .ref a7, .ref a8, .ref a9, .int 0, .ref a10, .ref a11, .ref a12]))] (some (.int 0)) (va_A [(a1, .inl (cZ, 250, .inl (upd (upd (fun _ => 0) 0 1) 1 0))), (a0, .inr (2, [.ref a2, .ref a3, .ref a4, .int 1])), (a3, .inr (0, [.int 2, .int 1, .int 1, .ref a5, .ref a1, .ref a6, .ref a7, .ref a8, .ref a9, .int 0, .ref a10, .ref a11, .ref a12]))] sz)) 0 0 (va_A [(a1, .inl (cZ, 250, .inl (upd (upd (fun _ => 0) 0 1) 1 0))), (a0, .inr (2, [.ref a2, .ref a3, .ref a4, .int 1])), (a3, .inr (0, [.int 2, .int 1, .int 1, .ref a5, .ref a1, .ref a6, .ref a7, .ref a8, .ref a9, .int 0, .ref a10, .ref a11, .ref a12]))] sz) := by
  refine xm_of (QQ := QR (dC, dI) [(a1, .inl (cZ, 250, .inl (upd (upd (fun _ => 0) 0 1) 1 0))), (a0, .inr (2, [.ref a2, .ref a3, .ref a4, .int 1])), (a3, .inr (0, [.int 2, .int 1, .int 1, .ref a5, .ref a1, .ref a6, .ref a7, .ref a8, .ref a9, .int 0, .ref a10, .ref a11, .ref a12]))] (some (.int 0))) (by decide +kernel) (Nat.le_of_ble_eq_true rfl) ?_
  intro p e s m below meth c A ls hx hb hr hml hown hts hlocks hin hK hP hD hE hA hS hl
  have hown : s.vm.findClass RX2 = some m.cls := hown
  have hl : lv_has ls 5 [(0, .ref a0), (1, .int 0), (2, .int 0)] := hl
  have hP : va_P (dC, dI) vwCl [(a1, .inl (cZ, 250, .inl (upd (upd (fun _ => 0) 0 1) 1 0))), (a0, .inr (2, [.ref a2, .ref a3, .ref a4, .int 1])), (a3, .inr (0, [.int 2, .int 1, .int 1, .ref a5, .ref a1, .ref a6, .ref a7, .ref a8, .ref a9, .int 0, .ref a10, .ref a11, .ref a12]))] s.heap := hP
  refine lv_aload_n hx hb dX2_canFollow_0 rfl (lv_at hl 0 rfl) ?_
  refine va_get (D := (dC, dI)) (ci := 2) (v := .ref a3) (C := RX2) (T := TX2) (N := 4) hx hb hts inX2 hown hK hP 1 rfl rfl 1 (by decide) (hts _ q152) (fun _ h9 => h9) rfl dX2_canFollow_1 ?_
  refine va_get (D := (dC, dI)) (ci := 0) (v := .ref a1) (C := RX0) (T := TX0) (N := 13) hx hb hts inX0 hown hK hP 2 rfl rfl 4 (by decide) (hts _ q103) (fun _ h9 => h9) rfl dX2_canFollow_4 ?_
  refine lv_iload_n hx hb dX2_canFollow_7 rfl (lv_at hl 1 rfl) ?_
  refine xa_zald (k := 0) (v := 1) hx hb hK hP 0 1 rfl rfl (by decide) (by decide +kernel) (Nat.le_of_ble_eq_true rfl) rfl dX2_canFollow_8 ?_
  refine lv_aload_n hx hb dX2_canFollow_9 rfl (lv_at hl 0 rfl) ?_
  refine va_get (D := (dC, dI)) (ci := 2) (v := .ref a3) (C := RX2) (T := TX2) (N := 4) hx hb hts inX2 hown hK hP 1 rfl rfl 1 (by decide) (hts _ q152) (fun _ h9 => h9) rfl dX2_canFollow_10 ?_
  refine va_get (D := (dC, dI)) (ci := 0) (v := .ref a1) (C := RX0) (T := TX0) (N := 13) hx hb hts inX0 hown hK hP 2 rfl rfl 4 (by decide) (hts _ q103) (fun _ h9 => h9) rfl dX2_canFollow_13 ?_
  refine lv_iload_n hx hb dX2_canFollow_16 rfl (lv_at hl 2 rfl) ?_
  refine xa_zald (k := 0) (v := 1) hx hb hK hP 0 1 rfl rfl (by decide) (by decide +kernel) (Nat.le_of_ble_eq_true rfl) rfl dX2_canFollow_17 ?_
  refine lv_icmp_ne (tgt := 23) hx hb dX2_canFollow_18 (by decide) (fun h9 => absurd (by decide) h9) (fun _ => ?_)
  refine lv_iconst (v := 0) hx hb dX2_canFollow_21 (by decide) ?_
  exact xr_z hx hb hr hlocks hP hD hS [0, 1, 2] rfl (by decide) rfl (Nat.le_of_ble_eq_true rfl) (Nat.le_of_ble_eq_true rfl) dX2_canFollow_22
set_option maxHeartbeats 4000000 in
set_option maxRecDepth 100000 in
theorem kX2_canFollow_1 (l : Launch) (hfl : l.stackTraces = false) (dC : Nat → ClassId) (dI : Nat → Nat → Nat) (cI cZ cJ cD : ClassId) (a0 a1 a2 a3 a4 a5 a6 a7 a8 a9 a10 a11 a12 a13 a14 a15 a16 a17 a18 a19 a20 a21 a22 a23 : Nat) (sz : Nat) : Met l yX2_canFollow (ws_ yX2_canFollow cX2_canFollow 5 (some .boolean)) (rm_ 1 0 0) (PC (dC, dI) (tyL cI cZ cJ cD) [(a1, .inl (cI, 250, .inl (upd (upd (fun _ => 0) 0 0) 1 0))), (a2, .inr (1, [.int 0, .ref a3, .ref a4, .ref a5, .ref a6, .ref a7, .ref a8, .ref a9, .int 0, .ref a10, .ref a11, .ref a12, .ref a13])), (a14, .inl (cZ, 250, .inl (upd (upd (fun _ => 0) 0 1) 1 0))), (a0, .inr (2, [.ref a2, .ref a15, .ref a16, .int 1])), (a15, .inr (0, [.int 2, .int 1, .int 1, .ref a1, .ref a14, .ref a17, .ref a18, .ref a19, .ref a20, .int 0, .ref a21, .ref a22, .ref a23]))] sz [.ref a0, .int 0, .int 1]) (QR (dC, dI) [(a1, .inl (cI, 250, .inl (upd (upd (fun _ => 0) 0 0) 1 0))), (a2, .inr (1, [.int 0, .ref a3, .ref a4, .ref a5, .ref a6, .ref a7, .ref a8, .ref a9, .int 0, .ref a10, .ref a11, .ref a12, .ref a13])), (a14, .inl (cZ, 250, .inl (upd (upd (fun _ => 0) 0 1) 1 0))), (a0, .inr (2, [.ref a2, .ref a15, .ref a16, .int 1])), (a15, .inr (0, [.int 2, .int 1, .int 1, .ref a1, .ref a14, .ref a17, .ref a18, .ref a19, .ref a20, .int 0, .ref a21, .ref a22, .ref a23]))] (some (.int 1)) (va_A [(a1, .inl (cI, 250, .inl (upd (upd (fun _ => 0) 0 0) 1 0))), (a2, .inr (1, [.int 0, .ref a3, .ref a4, .ref a5, .ref a6, .ref a7, .ref a8, .ref a9, .int 0, .ref a10, .ref a11, .ref a12, .ref a13])), (a14, .inl (cZ, 250, .inl (upd (upd (fun _ => 0) 0 1) 1 0))), (a0, .inr (2, [.ref a2, .ref a15, .ref a16, .int 1])), (a15, .inr (0, [.int 2, .int 1, .int 1, .ref a1, .ref a14, .ref a17, .ref a18, .ref a19, .ref a20, .int 0, .ref a21, .ref a22, .ref a23]))] sz)) 0 0 (va_A [(a1, .inl (cI, 250, .inl (upd (upd (fun _ => 0) 0 0) 1 0))), (a2, .inr (1, [.int 0, .ref a3, .ref a4, .ref a5, .ref a6, .ref a7, .ref a8, .ref a9, .int 0, .ref a10, .ref a11, .ref a12, .ref a13])), (a14, .inl (cZ, 250, .inl (upd (upd (fun _ => 0) 0 1) 1 0))), (a0, .inr (2, [.ref a2, .ref a15, .ref a16, .int 1])), (a15, .inr (0, [.int 2, .int 1, .int 1, .ref a1, .ref a14, .ref a17, .ref a18, .ref a19, .ref a20, .int 0, .ref a21, .ref a22, .ref a23]))] sz) := by
  refine xm_of (QQ := QR (dC, dI) [(a1, .inl (cI, 250, .inl (upd (upd (fun _ => 0) 0 0) 1 0))), (a2, .inr (1, [.int 0, .ref a3, .ref a4, .ref a5, .ref a6, .ref a7, .ref a8, .ref a9, .int 0, .ref a10, .ref a11, .ref a12, .ref a13])), (a14, .inl (cZ, 250, .inl (upd (upd (fun _ => 0) 0 1) 1 0))), (a0, .inr (2, [.ref a2, .ref a15, .ref a16, .int 1])), (a15, .inr (0, [.int 2, .int 1, .int 1, .ref a1, .ref a14, .ref a17, .ref a18, .ref a19, .ref a20, .int 0, .ref a21, .ref a22, .ref a23]))] (some (.int 1))) (by decide +kernel) (Nat.le_of_ble_eq_true rfl) ?_
  intro p e s m below meth c A ls hx hb hr hml hown hts hlocks hin hK hP hD hE hA hS hl
  have hown : s.vm.findClass RX2 = some m.cls := hown
  have hl : lv_has ls 5 [(0, .ref a0), (1, .int 0), (2, .int 1)] := hl
  have hP : va_P (dC, dI) vwCl [(a1, .inl (cI, 250, .inl (upd (upd (fun _ => 0) 0 0) 1 0))), (a2, .inr (1, [.int 0, .ref a3, .ref a4, .ref a5, .ref a6, .ref a7, .ref a8, .ref a9, .int 0, .ref a10, .ref a11, .ref a12, .ref a13])), (a14, .inl (cZ, 250, .inl (upd (upd (fun _ => 0) 0 1) 1 0))), (a0, .inr (2, [.ref a2, .ref a15, .ref a16, .int 1])), (a15, .inr (0, [.int 2, .int 1, .int 1, .ref a1, .ref a14, .ref a17, .ref a18, .ref a19, .ref a20, .int 0, .ref a21, .ref a22, .ref a23]))] s.heap := hP
  refine lv_aload_n hx hb dX2_canFollow_0 rfl (lv_at hl 0 rfl) ?_
  refine va_get (D := (dC, dI)) (ci := 2) (v := .ref a15) (C := RX2) (T := TX2) (N := 4) hx hb hts inX2 hown hK hP 3 rfl rfl 1 (by decide) (hts _ q152) (fun _ h9 => h9) rfl dX2_canFollow_1 ?_
  refine va_get (D := (dC, dI)) (ci := 0) (v := .ref a14) (C := RX0) (T := TX0) (N := 13) hx hb hts inX0 hown hK hP 4 rfl rfl 4 (by decide) (hts _ q103) (fun _ h9 => h9) rfl dX2_canFollow_4 ?_
  refine lv_iload_n hx hb dX2_canFollow_7 rfl (lv_at hl 1 rfl) ?_
  refine xa_zald (k := 0) (v := 1) hx hb hK hP 2 1 rfl rfl (by decide) (by decide +kernel) (Nat.le_of_ble_eq_true rfl) rfl dX2_canFollow_8 ?_
  refine lv_aload_n hx hb dX2_canFollow_9 rfl (lv_at hl 0 rfl) ?_
  refine va_get (D := (dC, dI)) (ci := 2) (v := .ref a15) (C := RX2) (T := TX2) (N := 4) hx hb hts inX2 hown hK hP 3 rfl rfl 1 (by decide) (hts _ q152) (fun _ h9 => h9) rfl dX2_canFollow_10 ?_
  refine va_get (D := (dC, dI)) (ci := 0) (v := .ref a14) (C := RX0) (T := TX0) (N := 13) hx hb hts inX0 hown hK hP 4 rfl rfl 4 (by decide) (hts _ q103) (fun _ h9 => h9) rfl dX2_canFollow_13 ?_
  refine lv_iload_n hx hb dX2_canFollow_16 rfl (lv_at hl 2 rfl) ?_
  refine xa_zald (k := 1) (v := 0) hx hb hK hP 2 1 rfl rfl (by decide) (by decide +kernel) (Nat.le_of_ble_eq_true rfl) rfl dX2_canFollow_17 ?_
  refine lv_icmp_ne (tgt := 23) hx hb dX2_canFollow_18 (by decide) (fun _ => ?_) (fun h9 => absurd h9 (by decide))
  refine lv_aload_n hx hb dX2_canFollow_23 rfl (lv_at hl 0 rfl) ?_
  refine va_get (D := (dC, dI)) (ci := 2) (v := .ref a15) (C := RX2) (T := TX2) (N := 4) hx hb hts inX2 hown hK hP 3 rfl rfl 1 (by decide) (hts _ q152) (fun _ h9 => h9) rfl dX2_canFollow_24 ?_
  refine va_get (D := (dC, dI)) (ci := 0) (v := .ref a1) (C := RX0) (T := TX0) (N := 13) hx hb hts inX0 hown hK hP 4 rfl rfl 3 (by decide) (hts _ q100) (fun _ h9 => h9) rfl dX2_canFollow_27 ?_
  refine lv_iload_n hx hb dX2_canFollow_30 rfl (lv_at hl 2 rfl) ?_
  refine xa_iald (k := 1) (v := 0) hx hb hK hP 0 0 rfl rfl (by decide) (by decide +kernel) (Nat.le_of_ble_eq_true rfl) rfl dX2_canFollow_31 ?_
  refine lv_istore_n (lv' := [(3, .int 0), (0, .ref a0), (1, .int 0), (2, .int 1)]) hx hb dX2_canFollow_32 rfl hl (by decide) rfl (fun ls hl => ?_)
  refine lv_aload_n hx hb dX2_canFollow_33 rfl (lv_at hl 1 rfl) ?_
  refine va_get (D := (dC, dI)) (ci := 2) (v := .ref a15) (C := RX2) (T := TX2) (N := 4) hx hb hts inX2 hown hK hP 3 rfl rfl 1 (by decide) (hts _ q152) (fun _ h9 => h9) rfl dX2_canFollow_34 ?_
  refine va_get (D := (dC, dI)) (ci := 0) (v := .ref a14) (C := RX0) (T := TX0) (N := 13) hx hb hts inX0 hown hK hP 4 rfl rfl 4 (by decide) (hts _ q103) (fun _ h9 => h9) rfl dX2_canFollow_37 ?_
  refine lv_iload_n hx hb dX2_canFollow_40 rfl (lv_at hl 3 rfl) ?_
  refine xa_zald (k := 1) (v := 0) hx hb hK hP 2 1 rfl rfl (by decide) (by decide +kernel) (Nat.le_of_ble_eq_true rfl) rfl dX2_canFollow_41 ?_
  refine lv_if_eq (tgt := 60) hx hb dX2_canFollow_42 (by decide) (fun _ => ?_) (fun h9 => absurd (by decide) h9)
  refine lv_iconst (v := 0) hx hb dX2_canFollow_60 (by decide) ?_
  refine lv_istore (lv' := [(4, .int 0), (3, .int 0), (0, .ref a0), (1, .int 0), (2, .int 1)]) hx hb dX2_canFollow_61 hl (by decide) rfl (fun ls hl => ?_)
  refine lv_iload hx hb dX2_canFollow_63 (lv_at hl 0 rfl) ?_
  refine lv_aload_n hx hb dX2_canFollow_65 rfl (lv_at hl 2 rfl) ?_
  refine va_get (D := (dC, dI)) (ci := 2) (v := .ref a2) (C := RX2) (T := TX2) (N := 4) hx hb hts inX2 hown hK hP 3 rfl rfl 0 (by decide) (hts _ q151) (fun _ h9 => h9) rfl dX2_canFollow_66 ?_
  refine va_get (D := (dC, dI)) (ci := 1) (v := .int 0) (C := RX1) (T := TX1) (N := 13) hx hb hts inX1 hown hK hP 1 rfl rfl 0 (by decide) (hts _ q32) (fun _ h9 => h9) rfl dX2_canFollow_69 ?_
  refine lv_icmp_ge (tgt := 106) hx hb dX2_canFollow_72 (by decide) (fun _ => ?_) (fun h9 => absurd (by decide) h9)
  refine lv_iconst (v := 1) hx hb dX2_canFollow_106 (by decide) ?_
  exact xr_z hx hb hr hlocks hP hD hS [0, 1, 2, 3, 4] rfl (by decide) rfl (Nat.le_of_ble_eq_true rfl) (Nat.le_of_ble_eq_true rfl) dX2_canFollow_107
