set_option maxHeartbeats 4000000 in
set_option maxRecDepth 100000 in
theorem kX4_choose_1 (l : Launch) (hfl : l.stackTraces = false) (dC : Nat → ClassId) (dI : Nat → Nat → Nat) (cI cZ cJ cD : ClassId) (a0 a1 a2 a3 a4 a5 a6 a7 a8 a9 a10 a11 a12 a13 : Nat) (sz : Nat) : Met l yX4_choose (ws_ yX4_choose cX4_choose 7 none) (rm_ 1 0 0) (PC (dC, dI) (tyL cI cZ cJ cD) [(a0, .inr (4, [.int 0, .int 0, .ref a1, .ref a2, .ref a3, .ref a4, .int 0, .ref a5, .ref a6, .ref a7, .ref a8, .int 0, .int 1, .int 2, .int 1, .ref a9, .ref a10, .ref a11, .ref a12, .ref a13]))] sz [.ref a0, .int 1]) (QR (dC, dI) [(a0, .inr (4, [.int 0, .int 0, .ref a1, .ref a2, .ref a3, .ref a4, .int 0, .ref a5, .ref a6, .ref a7, .ref a8, .int 0, .int 1, .int 2, .int 1, .ref a9, .ref a10, .ref a11, .ref a12, .ref a13]))] none (va_A [(a0, .inr (4, [.int 0, .int 0, .ref a1, .ref a2, .ref a3, .ref a4, .int 0, .ref a5, .ref a6, .ref a7, .ref a8, .int 0, .int 1, .int 2, .int 1, .ref a9, .ref a10, .ref a11, .ref a12, .ref a13]))] sz)) 0 0 (va_A [(a0, .inr (4, [.int 0, .int 0, .ref a1, .ref a2, .ref a3, .ref a4, .int 0, .ref a5, .ref a6, .ref a7, .ref a8, .int 0, .int 1, .int 2, .int 1, .ref a9, .ref a10, .ref a11, .ref a12, .ref a13]))] sz) := by
  refine xm_of (QQ := QR (dC, dI) [(a0, .inr (4, [.int 0, .int 0, .ref a1, .ref a2, .ref a3, .ref a4, .int 0, .ref a5, .ref a6, .ref a7, .ref a8, .int 0, .int 1, .int 2, .int 1, .ref a9, .ref a10, .ref a11, .ref a12, .ref a13]))] none) (by decide +kernel) (Nat.le_of_ble_eq_true rfl) ?_
  intro p e s m below meth c A ls hx hb hr hml hown hts hlocks hin hK hP hD hE hA hS hl
  have hown : s.vm.findClass RX4 = some m.cls := hown
  have hl : lv_has ls 7 [(0, .ref a0), (1, .int 1)] := hl
  have hP : va_P (dC, dI) vwCl [(a0, .inr (4, [.int 0, .int 0, .ref a1, .ref a2, .ref a3, .ref a4, .int 0, .ref a5, .ref a6, .ref a7, .ref a8, .int 0, .int 1, .int 2, .int 1, .ref a9, .ref a10, .ref a11, .ref a12, .ref a13]))] s.heap := hP
  refine lv_iconst (v := 1) hx hb dX4_choose_0 (by decide) ?_
  refine lv_iload_n hx hb dX4_choose_1 rfl (lv_at hl 1 rfl) ?_
  refine lv_iconst (v := 2) hx hb dX4_choose_2 (by decide) ?_
  refine lv_irem hx hb dX4_choose_3 (by decide) ?_
  refine tI (v := 1) (by decide +kernel) ?_
  refine lv_isub hx hb dX4_choose_4 ?_
  refine tI (v := 0) (by decide +kernel) ?_
  refine lv_istore_n (lv' := [(2, .int 0), (0, .ref a0), (1, .int 1)]) hx hb dX4_choose_5 rfl hl (by decide) rfl (fun ls hl => ?_)
  refine lv_iconst (v := 0) hx hb dX4_choose_6 (by decide) ?_
  refine lv_istore_n (lv' := [(3, .int 0), (2, .int 0), (0, .ref a0), (1, .int 1)]) hx hb dX4_choose_7 rfl hl (by decide) rfl (fun ls hl => ?_)
  refine lv_iload_n hx hb dX4_choose_8 rfl (lv_at hl 0 rfl) ?_
  refine lv_aload_n hx hb dX4_choose_9 rfl (lv_at hl 2 rfl) ?_
  refine va_get (D := (dC, dI)) (ci := 4) (v := .int 0) (C := RX4) (T := TX4) (N := 20) hx hb hts inX4 hown hK hP 0 rfl rfl 1 (by decide) (hts _ q688) (fun _ h9 => h9) rfl dX4_choose_10 ?_
  refine lv_icmp_ge (tgt := 134) hx hb dX4_choose_13 (by decide) (fun _ => ?_) (fun h9 => absurd (by decide) h9)
  exact xr_v hx hb hr hlocks hP hD hS [0] rfl (by decide) (Nat.le_of_ble_eq_true rfl) (Nat.le_of_ble_eq_true rfl) dX4_choose_134
set_option maxHeartbeats 4000000 in
set_option maxRecDepth 100000 in
theorem kX4_follows_1 (l : Launch) (hfl : l.stackTraces = false) (dC : Nat → ClassId) (dI : Nat → Nat → Nat) (cI cZ cJ cD : ClassId) (a0 : Nat) (sz : Nat) : Met l yX4_follows (ws_ yX4_follows cX4_follows 5 (some .boolean)) (rm_ 1 0 0) (PC (dC, dI) (tyL cI cZ cJ cD) [] sz [.ref a0, .int 1, .int 0]) (QR (dC, dI) [] (some (.int 0)) (va_A [] sz)) 0 0 (va_A [] sz) := by
  refine xm_of (QQ := QR (dC, dI) [] (some (.int 0))) (by decide +kernel) (Nat.le_of_ble_eq_true rfl) ?_
  intro p e s m below meth c A ls hx hb hr hml hown hts hlocks hin hK hP hD hE hA hS hl
  have hown : s.vm.findClass RX4 = some m.cls := hown
  have hl : lv_has ls 5 [(0, .ref a0), (1, .int 1), (2, .int 0)] := hl
  have hP : va_P (dC, dI) vwCl [] s.heap := hP
  refine lv_iload_n hx hb dX4_follows_0 rfl (lv_at hl 1 rfl) ?_
  refine lv_iconst (v := 2) hx hb dX4_follows_1 (by decide) ?_
  refine lv_irem hx hb dX4_follows_2 (by decide) ?_
  refine tI (v := 1) (by decide +kernel) ?_
  refine lv_iload_n hx hb dX4_follows_3 rfl (lv_at hl 2 rfl) ?_
  refine lv_iconst (v := 2) hx hb dX4_follows_4 (by decide) ?_
  refine lv_irem hx hb dX4_follows_5 (by decide) ?_
  refine tI (v := 0) (by decide +kernel) ?_
  refine lv_icmp_eq (tgt := 25) hx hb dX4_follows_6 (by decide) (fun h9 => absurd h9 (by decide)) (fun _ => ?_)
  refine lv_iload_n hx hb dX4_follows_9 rfl (lv_at hl 1 rfl) ?_
  refine lv_iconst (v := 2) hx hb dX4_follows_10 (by decide) ?_
  refine lv_irem hx hb dX4_follows_11 (by decide) ?_
  refine tI (v := 1) (by decide +kernel) ?_
  refine lv_iconst (v := 1) hx hb dX4_follows_12 (by decide) ?_
  refine lv_icmp_ne (tgt := 27) hx hb dX4_follows_13 (by decide) (fun h9 => absurd (by decide) h9) (fun _ => ?_)
  refine lv_iload_n hx hb dX4_follows_16 rfl (lv_at hl 1 rfl) ?_
  refine lv_iconst (v := 2) hx hb dX4_follows_17 (by decide) ?_
  refine lv_idiv hx hb dX4_follows_18 (by decide) ?_
  refine tI (v := 0) (by decide +kernel) ?_
  refine lv_iload_n hx hb dX4_follows_19 rfl (lv_at hl 2 rfl) ?_
  refine lv_iconst (v := 2) hx hb dX4_follows_20 (by decide) ?_
  refine lv_idiv hx hb dX4_follows_21 (by decide) ?_
  refine tI (v := 0) (by decide +kernel) ?_
  refine lv_icmp_ne (tgt := 27) hx hb dX4_follows_22 (by decide) (fun h9 => absurd (by decide) h9) (fun _ => ?_)
  refine lv_iconst (v := 0) hx hb dX4_follows_25 (by decide) ?_
  exact xr_z hx hb hr hlocks hP hD hS [] rfl (by decide) rfl (Nat.le_of_ble_eq_true rfl) (Nat.le_of_ble_eq_true rfl) dX4_follows_26
set_option maxHeartbeats 4000000 in
set_option maxRecDepth 100000 in
theorem kX4_expand_1 (l : Launch) (hfl : l.stackTraces = false) (dC : Nat → ClassId) (dI : Nat → Nat → Nat) (cI cZ cJ cD : ClassId) (a0 a1 a2 a3 a4 a5 a6 a7 a8 a9 a10 a11 a12 a13 : Nat) (sz : Nat) : Met l yX4_expand (ws_ yX4_expand cX4_expand 8 (some .boolean)) (rm_ 2 0 0) (PC (dC, dI) (tyL cI cZ cJ cD) [(a1, .inl (cI, 250, .inl (upd (upd (fun _ => 0) 0 0) 1 1))), (a0, .inr (4, [.int 0, .int 0, .ref a2, .ref a3, .ref a4, .ref a5, .int 0, .ref a6, .ref a7, .ref a8, .ref a9, .int 0, .int 1, .int 2, .int 1, .ref a1, .ref a10, .ref a11, .ref a12, .ref a13]))] sz [.ref a0, .int 1]) (QR (dC, dI) [(a1, .inl (cI, 250, .inl (upd (upd (fun _ => 0) 0 0) 1 1))), (a0, .inr (4, [.int 0, .int 0, .ref a2, .ref a3, .ref a4, .ref a5, .int 0, .ref a6, .ref a7, .ref a8, .ref a9, .int 0, .int 1, .int 2, .int 1, .ref a1, .ref a10, .ref a11, .ref a12, .ref a13]))] (some (.int 1)) (va_A [(a1, .inl (cI, 250, .inl (upd (upd (fun _ => 0) 0 0) 1 1))), (a0, .inr (4, [.int 0, .int 0, .ref a2, .ref a3, .ref a4, .ref a5, .int 0, .ref a6, .ref a7, .ref a8, .ref a9, .int 0, .int 1, .int 2, .int 1, .ref a1, .ref a10, .ref a11, .ref a12, .ref a13]))] sz)) 0 0 (va_A [(a1, .inl (cI, 250, .inl (upd (upd (fun _ => 0) 0 0) 1 1))), (a0, .inr (4, [.int 0, .int 0, .ref a2, .ref a3, .ref a4, .ref a5, .int 0, .ref a6, .ref a7, .ref a8, .ref a9, .int 0, .int 1, .int 2, .int 1, .ref a1, .ref a10, .ref a11, .ref a12, .ref a13]))] sz) := by
  refine xm_of (QQ := QR (dC, dI) [(a1, .inl (cI, 250, .inl (upd (upd (fun _ => 0) 0 0) 1 1))), (a0, .inr (4, [.int 0, .int 0, .ref a2, .ref a3, .ref a4, .ref a5, .int 0, .ref a6, .ref a7, .ref a8, .ref a9, .int 0, .int 1, .int 2, .int 1, .ref a1, .ref a10, .ref a11, .ref a12, .ref a13]))] (some (.int 1))) (by decide +kernel) (Nat.le_of_ble_eq_true rfl) ?_
  intro p e s m below meth c A ls hx hb hr hml hown hts hlocks hin hK hP hD hE hA hS hl
  have hown : s.vm.findClass RX4 = some m.cls := hown
  have hl : lv_has ls 8 [(0, .ref a0), (1, .int 1)] := hl
  have hP : va_P (dC, dI) vwCl [(a1, .inl (cI, 250, .inl (upd (upd (fun _ => 0) 0 0) 1 1))), (a0, .inr (4, [.int 0, .int 0, .ref a2, .ref a3, .ref a4, .ref a5, .int 0, .ref a6, .ref a7, .ref a8, .ref a9, .int 0, .int 1, .int 2, .int 1, .ref a1, .ref a10, .ref a11, .ref a12, .ref a13]))] s.heap := hP
  refine lv_aload_n hx hb dX4_expand_0 rfl (lv_at hl 0 rfl) ?_
  refine lv_aload_n hx hb dX4_expand_1 rfl (lv_at hl 0 rfl) ?_
  refine va_get (D := (dC, dI)) (ci := 4) (v := .ref a1) (C := RX4) (T := TX4) (N := 20) hx hb hts inX4 hown hK hP 1 rfl rfl 15 (by decide) (hts _ q702) (fun _ h9 => h9) rfl dX4_expand_2 ?_
  refine lv_iload_n hx hb dX4_expand_5 rfl (lv_at hl 1 rfl) ?_
  refine xa_iald (k := 1) (v := 1) hx hb hK hP 0 0 rfl rfl (by decide) (by decide +kernel) (Nat.le_of_ble_eq_true rfl) rfl dX4_expand_6 ?_
  refine xc_V (b := a0) (wc := [(a0, .inr (4, [.int 0, .int 0, .ref a2, .ref a3, .ref a4, .ref a5, .int 0, .ref a6, .ref a7, .ref a8, .ref a9, .int 0, .int 1, .int 2, .int 1, .ref a1, .ref a10, .ref a11, .ref a12, .ref a13]))]) (As := [.int 1]) (rest := []) (wr := [(a1, .inl (cI, 250, .inl (upd (upd (fun _ => 0) 0 0) 1 1)))]) ⟨hx, hb, hml, hown, hts⟩ (kX4_choose_1 l hfl dC dI cI cZ cJ cD a0 a2 a3 a4 a5 a6 a7 a8 a9 a1 a10 a11 a12 a13 _) q849 okX4_choose hP hD hK hE hS hA [1] [0] rfl rfl (by decide) (by decide) (by decide) (ci := 4) rfl 1 rfl rfl rfl hl.1 rfl (Nat.le_of_ble_eq_true rfl) ⟨rfl, rfl⟩ ⟨Nat.le_of_ble_eq_true rfl, Nat.le_of_ble_eq_true rfl⟩ ⟨Nat.le_of_ble_eq_true rfl, Nat.le_of_ble_eq_true rfl⟩ dX4_expand_7 (fun H locs hP hD hS => ?_)
  have hP : va_P (dC, dI) vwCl [(a1, .inl (cI, 250, .inl (upd (upd (fun _ => 0) 0 0) 1 1))), (a0, .inr (4, [.int 0, .int 0, .ref a2, .ref a3, .ref a4, .ref a5, .int 0, .ref a6, .ref a7, .ref a8, .ref a9, .int 0, .int 1, .int 2, .int 1, .ref a1, .ref a10, .ref a11, .ref a12, .ref a13]))] H := hP
  have hD : va_D A [(a1, .inl (cI, 250, .inl (upd (upd (fun _ => 0) 0 0) 1 1))), (a0, .inr (4, [.int 0, .int 0, .ref a2, .ref a3, .ref a4, .ref a5, .int 0, .ref a6, .ref a7, .ref a8, .ref a9, .int 0, .int 1, .int 2, .int 1, .ref a1, .ref a10, .ref a11, .ref a12, .ref a13]))] := hD
  refine W.eq (g2 := F0 m 10 ls []) rfl ?_
  refine lv_iconst (v := 1) hx hb dX4_expand_10 (by decide) ?_
  refine lv_istore_n (lv' := [(2, .int 1), (0, .ref a0), (1, .int 1)]) hx hb dX4_expand_11 rfl hl (by decide) rfl (fun ls hl => ?_)
  refine lv_iconst (v := 0) hx hb dX4_expand_12 (by decide) ?_
  refine lv_istore_n (lv' := [(3, .int 0), (2, .int 1), (0, .ref a0), (1, .int 1)]) hx hb dX4_expand_13 rfl hl (by decide) rfl (fun ls hl => ?_)
  refine lv_iload_n hx hb dX4_expand_14 rfl (lv_at hl 0 rfl) ?_
  refine lv_aload_n hx hb dX4_expand_15 rfl (lv_at hl 2 rfl) ?_
  refine va_get (D := (dC, dI)) (ci := 4) (v := .int 0) (C := RX4) (T := TX4) (N := 20) hx hb hts inX4 hown hK hP 1 rfl rfl 1 (by decide) (hts _ q688) (fun _ h9 => h9) rfl dX4_expand_16 ?_
  refine lv_icmp_ge (tgt := 37) hx hb dX4_expand_19 (by decide) (fun _ => ?_) (fun h9 => absurd (by decide) h9)
  refine lv_iconst (v := 0) hx hb dX4_expand_37 (by decide) ?_
  refine lv_istore_n (lv' := [(3, .int 0), (2, .int 1), (0, .ref a0), (1, .int 1)]) hx hb dX4_expand_38 rfl hl (by decide) rfl (fun ls hl => ?_)
  refine lv_iload_n hx hb dX4_expand_39 rfl (lv_at hl 0 rfl) ?_
  refine lv_iload_n hx hb dX4_expand_40 rfl (lv_at hl 1 rfl) ?_
  refine lv_icmp_ge (tgt := 180) hx hb dX4_expand_41 (by decide) (fun h9 => absurd h9 (by decide)) (fun _ => ?_)
  refine lv_iconst (v := 0) hx hb dX4_expand_44 (by decide) ?_
  refine lv_istore (lv' := [(4, .int 0), (3, .int 0), (2, .int 1), (0, .ref a0), (1, .int 1)]) hx hb dX4_expand_45 hl (by decide) rfl (fun ls hl => ?_)
  refine lv_iload_n hx hb dX4_expand_47 rfl (lv_at hl 1 rfl) ?_
  refine lv_istore (lv' := [(5, .int 0), (4, .int 0), (3, .int 0), (2, .int 1), (0, .ref a0), (1, .int 1)]) hx hb dX4_expand_48 hl (by decide) rfl (fun ls hl => ?_)
  refine lv_iload_n hx hb dX4_expand_50 rfl (lv_at hl 3 rfl) ?_
  refine lv_istore (lv' := [(6, .int 1), (5, .int 0), (4, .int 0), (3, .int 0), (2, .int 1), (0, .ref a0), (1, .int 1)]) hx hb dX4_expand_51 hl (by decide) rfl (fun ls hl => ?_)
  refine lv_iconst (v := 0) hx hb dX4_expand_53 (by decide) ?_
  refine lv_istore (lv' := [(7, .int 0), (6, .int 1), (5, .int 0), (4, .int 0), (3, .int 0), (2, .int 1), (0, .ref a0), (1, .int 1)]) hx hb dX4_expand_54 hl (by decide) rfl (fun ls hl => ?_)
  refine lv_iload hx hb dX4_expand_56 (lv_at hl 0 rfl) ?_
  refine lv_aload_n hx hb dX4_expand_58 rfl (lv_at hl 6 rfl) ?_
  refine va_get (D := (dC, dI)) (ci := 4) (v := .int 0) (C := RX4) (T := TX4) (N := 20) hx hb hts inX4 hown hK hP 1 rfl rfl 1 (by decide) (hts _ q688) (fun _ h9 => h9) rfl dX4_expand_59 ?_
  refine lv_icmp_ge (tgt := 114) hx hb dX4_expand_62 (by decide) (fun _ => ?_) (fun h9 => absurd (by decide) h9)
  refine lv_iconst (v := 2) hx hb dX4_expand_114 (by decide) ?_
  refine lv_iload hx hb dX4_expand_115 (lv_at hl 3 rfl) ?_
  refine lv_imul hx hb dX4_expand_117 ?_
  refine tI (v := 0) (by decide +kernel) ?_
  refine lv_iconst (v := 1) hx hb dX4_expand_118 (by decide) ?_
  refine lv_iadd hx hb dX4_expand_119 ?_
  refine tI (v := 1) (by decide +kernel) ?_
  refine lv_aload_n hx hb dX4_expand_120 rfl (lv_at hl 6 rfl) ?_
  refine va_get (D := (dC, dI)) (ci := 4) (v := .ref a1) (C := RX4) (T := TX4) (N := 20) hx hb hts inX4 hown hK hP 1 rfl rfl 15 (by decide) (hts _ q702) (fun _ h9 => h9) rfl dX4_expand_121 ?_
  refine lv_iload_n hx hb dX4_expand_124 rfl (lv_at hl 7 rfl) ?_
  refine xa_iald (k := 1) (v := 1) hx hb hK hP 0 0 rfl rfl (by decide) (by decide +kernel) (Nat.le_of_ble_eq_true rfl) rfl dX4_expand_125 ?_
  refine lv_iconst (v := 2) hx hb dX4_expand_126 (by decide) ?_
  refine lv_irem hx hb dX4_expand_127 (by decide) ?_
  refine tI (v := 1) (by decide +kernel) ?_
  refine lv_isub hx hb dX4_expand_128 ?_
  refine tI (v := 0) (by decide +kernel) ?_
  refine lv_istore (lv' := [(7, .int 0), (6, .int 1), (5, .int 0), (4, .int 0), (3, .int 0), (2, .int 1), (0, .ref a0), (1, .int 1)]) hx hb dX4_expand_129 hl (by decide) rfl (fun ls hl => ?_)
  refine lv_aload_n hx hb dX4_expand_131 rfl (lv_at hl 6 rfl) ?_
  refine lv_aload_n hx hb dX4_expand_132 rfl (lv_at hl 6 rfl) ?_
  refine va_get (D := (dC, dI)) (ci := 4) (v := .ref a1) (C := RX4) (T := TX4) (N := 20) hx hb hts inX4 hown hK hP 1 rfl rfl 15 (by decide) (hts _ q702) (fun _ h9 => h9) rfl dX4_expand_133 ?_
  refine lv_iload_n hx hb dX4_expand_136 rfl (lv_at hl 7 rfl) ?_
  refine xa_iald (k := 1) (v := 1) hx hb hK hP 0 0 rfl rfl (by decide) (by decide +kernel) (Nat.le_of_ble_eq_true rfl) rfl dX4_expand_137 ?_
  refine lv_iload hx hb dX4_expand_138 (lv_at hl 0 rfl) ?_
  refine xc_V (b := a0) (wc := []) (As := [.int 1, .int 0]) (rest := []) (wr := [(a1, .inl (cI, 250, .inl (upd (upd (fun _ => 0) 0 0) 1 1))), (a0, .inr (4, [.int 0, .int 0, .ref a2, .ref a3, .ref a4, .ref a5, .int 0, .ref a6, .ref a7, .ref a8, .ref a9, .int 0, .int 1, .int 2, .int 1, .ref a1, .ref a10, .ref a11, .ref a12, .ref a13]))]) ⟨hx, hb, hml, hown, hts⟩ (kX4_follows_1 l hfl dC dI cI cZ cJ cD a0 _) q857 okX4_follows hP hD hK hE hS hA [] [0, 1] rfl rfl (by decide) (by decide) (by decide) (ci := 4) rfl 1 rfl rfl rfl hl.1 rfl (Nat.le_of_ble_eq_true rfl) ⟨rfl, rfl⟩ ⟨Nat.le_of_ble_eq_true rfl, Nat.le_of_ble_eq_true rfl⟩ ⟨Nat.le_of_ble_eq_true rfl, Nat.le_of_ble_eq_true rfl⟩ dX4_expand_140 (fun H locs hP hD hS => ?_)
  have hP : va_P (dC, dI) vwCl [(a1, .inl (cI, 250, .inl (upd (upd (fun _ => 0) 0 0) 1 1))), (a0, .inr (4, [.int 0, .int 0, .ref a2, .ref a3, .ref a4, .ref a5, .int 0, .ref a6, .ref a7, .ref a8, .ref a9, .int 0, .int 1, .int 2, .int 1, .ref a1, .ref a10, .ref a11, .ref a12, .ref a13]))] H := hP
  have hD : va_D A [(a1, .inl (cI, 250, .inl (upd (upd (fun _ => 0) 0 0) 1 1))), (a0, .inr (4, [.int 0, .int 0, .ref a2, .ref a3, .ref a4, .ref a5, .int 0, .ref a6, .ref a7, .ref a8, .ref a9, .int 0, .int 1, .int 2, .int 1, .ref a1, .ref a10, .ref a11, .ref a12, .ref a13]))] := hD
  refine W.eq (g2 := F0 m 143 ls [.int 0]) rfl ?_
  refine lv_if_eq (tgt := 174) hx hb dX4_expand_143 (by decide) (fun _ => ?_) (fun h9 => absurd (by decide) h9)
  refine lv_iinc (v := 1) (lv' := [(3, .int 1), (7, .int 0), (6, .int 1), (5, .int 0), (4, .int 0), (2, .int 1), (0, .ref a0), (1, .int 1)]) hx hb dX4_expand_174 hl (k := 4) rfl (by decide +kernel) (by decide) rfl (fun ls hl => ?_)
  refine lv_goto (tgt := 39) hx hb dX4_expand_177 (by decide) ?_
  refine lv_iload_n hx hb dX4_expand_39 rfl (lv_at hl 0 rfl) ?_
  refine lv_iload_n hx hb dX4_expand_40 rfl (lv_at hl 5 rfl) ?_
  refine lv_icmp_ge (tgt := 180) hx hb dX4_expand_41 (by decide) (fun _ => ?_) (fun h9 => absurd (by decide) h9)
  refine lv_iconst (v := 1) hx hb dX4_expand_180 (by decide) ?_
  exact xr_z hx hb hr hlocks hP hD hS [0, 1] rfl (by decide) rfl (Nat.le_of_ble_eq_true rfl) (Nat.le_of_ble_eq_true rfl) dX4_expand_181
set_option maxHeartbeats 4000000 in
set_option maxRecDepth 100000 in
theorem kX4_follows_2 (l : Launch) (hfl : l.stackTraces = false) (dC : Nat → ClassId) (dI : Nat → Nat → Nat) (cI cZ cJ cD : ClassId) (a0 : Nat) (sz : Nat) : Met l yX4_follows (ws_ yX4_follows cX4_follows 5 (some .boolean)) (rm_ 1 0 0) (PC (dC, dI) (tyL cI cZ cJ cD) [] sz [.ref a0, .int 0, .int 0]) (QR (dC, dI) [] (some (.int 0)) (va_A [] sz)) 0 0 (va_A [] sz) := by
  refine xm_of (QQ := QR (dC, dI) [] (some (.int 0))) (by decide +kernel) (Nat.le_of_ble_eq_true rfl) ?_
  intro p e s m below meth c A ls hx hb hr hml hown hts hlocks hin hK hP hD hE hA hS hl
  have hown : s.vm.findClass RX4 = some m.cls := hown
  have hl : lv_has ls 5 [(0, .ref a0), (1, .int 0), (2, .int 0)] := hl
  have hP : va_P (dC, dI) vwCl [] s.heap := hP
  refine lv_iload_n hx hb dX4_follows_0 rfl (lv_at hl 1 rfl) ?_
  refine lv_iconst (v := 2) hx hb dX4_follows_1 (by decide) ?_
  refine lv_irem hx hb dX4_follows_2 (by decide) ?_
  refine tI (v := 0) (by decide +kernel) ?_
  refine lv_iload_n hx hb dX4_follows_3 rfl (lv_at hl 2 rfl) ?_
  refine lv_iconst (v := 2) hx hb dX4_follows_4 (by decide) ?_
  refine lv_irem hx hb dX4_follows_5 (by decide) ?_
  refine tI (v := 0) (by decide +kernel) ?_
  refine lv_icmp_eq (tgt := 25) hx hb dX4_follows_6 (by decide) (fun _ => ?_) (fun h9 => absurd (by decide) h9)
  refine lv_iconst (v := 0) hx hb dX4_follows_25 (by decide) ?_
  exact xr_z hx hb hr hlocks hP hD hS [] rfl (by decide) rfl (Nat.le_of_ble_eq_true rfl) (Nat.le_of_ble_eq_true rfl) dX4_follows_26
set_option maxHeartbeats 4000000 in
set_option maxRecDepth 100000 in
theorem kX4_follows_3 (l : Launch) (hfl : l.stackTraces = false) (dC : Nat → ClassId) (dI : Nat → Nat → Nat) (cI cZ cJ cD : ClassId) (a0 a1 a2 a3 a4 a5 a6 a7 a8 a9 a10 a11 a12 a13 : Nat) (sz : Nat) : Met l yX4_follows (ws_ yX4_follows cX4_follows 5 (some .boolean)) (rm_ 1 0 0) (PC (dC, dI) (tyL cI cZ cJ cD) [(a0, .inr (4, [.int 0, .int 0, .ref a1, .ref a2, .ref a3, .ref a4, .int 0, .ref a5, .ref a6, .ref a7, .ref a8, .int 0, .int 1, .int 2, .int 1, .ref a9, .ref a10, .ref a11, .ref a12, .ref a13]))] sz [.ref a0, .int 0, .int 1]) (QR (dC, dI) [(a0, .inr (4, [.int 0, .int 0, .ref a1, .ref a2, .ref a3, .ref a4, .int 0, .ref a5, .ref a6, .ref a7, .ref a8, .int 0, .int 1, .int 2, .int 1, .ref a9, .ref a10, .ref a11, .ref a12, .ref a13]))] (some (.int 1)) (va_A [(a0, .inr (4, [.int 0, .int 0, .ref a1, .ref a2, .ref a3, .ref a4, .int 0, .ref a5, .ref a6, .ref a7, .ref a8, .int 0, .int 1, .int 2, .int 1, .ref a9, .ref a10, .ref a11, .ref a12, .ref a13]))] sz)) 0 0 (va_A [(a0, .inr (4, [.int 0, .int 0, .ref a1, .ref a2, .ref a3, .ref a4, .int 0, .ref a5, .ref a6, .ref a7, .ref a8, .int 0, .int 1, .int 2, .int 1, .ref a9, .ref a10, .ref a11, .ref a12, .ref a13]))] sz) := by
  refine xm_of (QQ := QR (dC, dI) [(a0, .inr (4, [.int 0, .int 0, .ref a1, .ref a2, .ref a3, .ref a4, .int 0, .ref a5, .ref a6, .ref a7, .ref a8, .int 0, .int 1, .int 2, .int 1, .ref a9, .ref a10, .ref a11, .ref a12, .ref a13]))] (some (.int 1))) (by decide +kernel) (Nat.le_of_ble_eq_true rfl) ?_
  intro p e s m below meth c A ls hx hb hr hml hown hts hlocks hin hK hP hD hE hA hS hl
  have hown : s.vm.findClass RX4 = some m.cls := hown
  have hl : lv_has ls 5 [(0, .ref a0), (1, .int 0), (2, .int 1)] := hl
  have hP : va_P (dC, dI) vwCl [(a0, .inr (4, [.int 0, .int 0, .ref a1, .ref a2, .ref a3, .ref a4, .int 0, .ref a5, .ref a6, .ref a7, .ref a8, .int 0, .int 1, .int 2, .int 1, .ref a9, .ref a10, .ref a11, .ref a12, .ref a13]))] s.heap := hP
  refine lv_iload_n hx hb dX4_follows_0 rfl (lv_at hl 1 rfl) ?_
  refine lv_iconst (v := 2) hx hb dX4_follows_1 (by decide) ?_
  refine lv_irem hx hb dX4_follows_2 (by decide) ?_
  refine tI (v := 0) (by decide +kernel) ?_
  refine lv_iload_n hx hb dX4_follows_3 rfl (lv_at hl 2 rfl) ?_
  refine lv_iconst (v := 2) hx hb dX4_follows_4 (by decide) ?_
  refine lv_irem hx hb dX4_follows_5 (by decide) ?_
  refine tI (v := 1) (by decide +kernel) ?_
  refine lv_icmp_eq (tgt := 25) hx hb dX4_follows_6 (by decide) (fun h9 => absurd h9 (by decide)) (fun _ => ?_)
  refine lv_iload_n hx hb dX4_follows_9 rfl (lv_at hl 1 rfl) ?_
  refine lv_iconst (v := 2) hx hb dX4_follows_10 (by decide) ?_
  refine lv_irem hx hb dX4_follows_11 (by decide) ?_
  refine tI (v := 0) (by decide +kernel) ?_
  refine lv_iconst (v := 1) hx hb dX4_follows_12 (by decide) ?_
  refine lv_icmp_ne (tgt := 27) hx hb dX4_follows_13 (by decide) (fun _ => ?_) (fun h9 => absurd h9 (by decide))
  refine lv_iconst (v := 1) hx hb dX4_follows_27 (by decide) ?_
  refine lv_istore_n (lv' := [(3, .int 1), (0, .ref a0), (1, .int 0), (2, .int 1)]) hx hb dX4_follows_28 rfl hl (by decide) rfl (fun ls hl => ?_)
  refine lv_iconst (v := 0) hx hb dX4_follows_29 (by decide) ?_
  refine lv_istore (lv' := [(4, .int 0), (3, .int 1), (0, .ref a0), (1, .int 0), (2, .int 1)]) hx hb dX4_follows_30 hl (by decide) rfl (fun ls hl => ?_)
  refine lv_iload hx hb dX4_follows_32 (lv_at hl 0 rfl) ?_
  refine lv_aload_n hx hb dX4_follows_34 rfl (lv_at hl 2 rfl) ?_
  refine va_get (D := (dC, dI)) (ci := 4) (v := .int 0) (C := RX4) (T := TX4) (N := 20) hx hb hts inX4 hown hK hP 0 rfl rfl 1 (by decide) (hts _ q688) (fun _ h9 => h9) rfl dX4_follows_35 ?_
  refine lv_icmp_ge (tgt := 68) hx hb dX4_follows_38 (by decide) (fun _ => ?_) (fun h9 => absurd (by decide) h9)
  refine lv_iload_n hx hb dX4_follows_68 rfl (lv_at hl 1 rfl) ?_
  exact xr_z hx hb hr hlocks hP hD hS [0] rfl (by decide) rfl (Nat.le_of_ble_eq_true rfl) (Nat.le_of_ble_eq_true rfl) dX4_follows_69
set_option maxHeartbeats 4000000 in
set_option maxRecDepth 100000 in
theorem kX4_follows_4 (l : Launch) (hfl : l.stackTraces = false) (dC : Nat → ClassId) (dI : Nat → Nat → Nat) (cI cZ cJ cD : ClassId) (a0 : Nat) (sz : Nat) : Met l yX4_follows (ws_ yX4_follows cX4_follows 5 (some .boolean)) (rm_ 1 0 0) (PC (dC, dI) (tyL cI cZ cJ cD) [] sz [.ref a0, .int 1, .int 1]) (QR (dC, dI) [] (some (.int 0)) (va_A [] sz)) 0 0 (va_A [] sz) := by
  refine xm_of (QQ := QR (dC, dI) [] (some (.int 0))) (by decide +kernel) (Nat.le_of_ble_eq_true rfl) ?_
  intro p e s m below meth c A ls hx hb hr hml hown hts hlocks hin hK hP hD hE hA hS hl
  have hown : s.vm.findClass RX4 = some m.cls := hown
  have hl : lv_has ls 5 [(0, .ref a0), (1, .int 1), (2, .int 1)] := hl
  have hP : va_P (dC, dI) vwCl [] s.heap := hP
  refine lv_iload_n hx hb dX4_follows_0 rfl (lv_at hl 1 rfl) ?_
  refine lv_iconst (v := 2) hx hb dX4_follows_1 (by decide) ?_
  refine lv_irem hx hb dX4_follows_2 (by decide) ?_
  refine tI (v := 1) (by decide +kernel) ?_
  refine lv_iload_n hx hb dX4_follows_3 rfl (lv_at hl 2 rfl) ?_
  refine lv_iconst (v := 2) hx hb dX4_follows_4 (by decide) ?_
  refine lv_irem hx hb dX4_follows_5 (by decide) ?_
  refine tI (v := 1) (by decide +kernel) ?_
  refine lv_icmp_eq (tgt := 25) hx hb dX4_follows_6 (by decide) (fun _ => ?_) (fun h9 => absurd (by decide) h9)
  refine lv_iconst (v := 0) hx hb dX4_follows_25 (by decide) ?_
  exact xr_z hx hb hr hlocks hP hD hS [] rfl (by decide) rfl (Nat.le_of_ble_eq_true rfl) (Nat.le_of_ble_eq_true rfl) dX4_follows_26
set_option maxHeartbeats 4000000 in
set_option maxRecDepth 100000 in
theorem kX4_find_0 (l : Launch) (hfl : l.stackTraces = false) (dC : Nat → ClassId) (dI : Nat → Nat → Nat) (cI cZ cJ cD : ClassId) (a0 a1 a2 a3 a4 a5 a6 a7 a8 a9 a10 a11 a12 a13 : Nat) (sz : Nat) : Met l yX4_find (ws_ yX4_find cX4_find 4 none) (rm_ 4 0 0) (PC (dC, dI) (tyL cI cZ cJ cD) [(a0, .inr (4, [.int 0, .int 0, .ref a1, .ref a2, .ref a3, .ref a4, .int 0, .ref a5, .ref a6, .ref a7, .ref a8, .int 0, .int 0, .int 0, .int 0, .ref a9, .ref a10, .ref a11, .ref a12, .ref a13])), (a9, .inl (cI, 250, .inl (fun _ => 0))), (a10, .inl (cI, 250, .inl (fun _ => 0))), (a11, .inl (cZ, 62500, .inl (fun _ => 0)))] sz [.ref a0]) (QR (dC, dI) [(a0, .inr (4, [.int 0, .int 0, .ref a1, .ref a2, .ref a3, .ref a4, .int 0, .ref a5, .ref a6, .ref a7, .ref a8, .int 1, .int 1, .int 2, .int 1, .ref a9, .ref a10, .ref a11, .ref a12, .ref a13])), (a9, .inl (cI, 250, .inl (upd (upd (fun _ => 0) 0 0) 1 1))), (a10, .inl (cI, 250, .inl (upd (upd (fun _ => 0) 0 0) 1 1))), (a11, .inl (cZ, 62500, .inl (upd (upd (upd (upd (fun _ => 0) 0 0) 1 1) 250 0) 251 0)))] none (va_A [(a0, .inr (4, [.int 0, .int 0, .ref a1, .ref a2, .ref a3, .ref a4, .int 0, .ref a5, .ref a6, .ref a7, .ref a8, .int 0, .int 0, .int 0, .int 0, .ref a9, .ref a10, .ref a11, .ref a12, .ref a13])), (a9, .inl (cI, 250, .inl (fun _ => 0))), (a10, .inl (cI, 250, .inl (fun _ => 0))), (a11, .inl (cZ, 62500, .inl (fun _ => 0)))] sz)) 0 0 (va_A [(a0, .inr (4, [.int 0, .int 0, .ref a1, .ref a2, .ref a3, .ref a4, .int 0, .ref a5, .ref a6, .ref a7, .ref a8, .int 0, .int 0, .int 0, .int 0, .ref a9, .ref a10, .ref a11, .ref a12, .ref a13])), (a9, .inl (cI, 250, .inl (fun _ => 0))), (a10, .inl (cI, 250, .inl (fun _ => 0))), (a11, .inl (cZ, 62500, .inl (fun _ => 0)))] sz) := by
  refine xm_of (QQ := QR (dC, dI) [(a0, .inr (4, [.int 0, .int 0, .ref a1, .ref a2, .ref a3, .ref a4, .int 0, .ref a5, .ref a6, .ref a7, .ref a8, .int 1, .int 1, .int 2, .int 1, .ref a9, .ref a10, .ref a11, .ref a12, .ref a13])), (a9, .inl (cI, 250, .inl (upd (upd (fun _ => 0) 0 0) 1 1))), (a10, .inl (cI, 250, .inl (upd (upd (fun _ => 0) 0 0) 1 1))), (a11, .inl (cZ, 62500, .inl (upd (upd (upd (upd (fun _ => 0) 0 0) 1 1) 250 0) 251 0)))] none) (by decide +kernel) (Nat.le_of_ble_eq_true rfl) ?_
  intro p e s m below meth c A ls hx hb hr hml hown hts hlocks hin hK hP hD hE hA hS hl
  have hown : s.vm.findClass RX4 = some m.cls := hown
  have hl : lv_has ls 4 [(0, .ref a0)] := hl
  have hP : va_P (dC, dI) vwCl [(a0, .inr (4, [.int 0, .int 0, .ref a1, .ref a2, .ref a3, .ref a4, .int 0, .ref a5, .ref a6, .ref a7, .ref a8, .int 0, .int 0, .int 0, .int 0, .ref a9, .ref a10, .ref a11, .ref a12, .ref a13])), (a9, .inl (cI, 250, .inl (fun _ => 0))), (a10, .inl (cI, 250, .inl (fun _ => 0))), (a11, .inl (cZ, 62500, .inl (fun _ => 0)))] s.heap := hP
  refine lv_aload_n hx hb dX4_find_0 rfl (lv_at hl 0 rfl) ?_
  refine lv_iconst (v := 0) hx hb dX4_find_1 (by decide) ?_
  refine va_put (D := (dC, dI)) (ci := 4) (v := .int 0) (ty := .int) (C := RX4) (T := TX4) (N := 20) hx hb hts inX4 tyX4 tyX4_ok nmX4 hown hK hP hD hS 0 rfl rfl 13 (by decide) (hts _ q700) (fun _ h9 => h9) rfl (by decide +kernel) rfl rfl (Nat.le_of_ble_eq_true rfl) dX4_find_2 (fun H locs hP hD hS => ?_)
  have hP : va_P (dC, dI) vwCl [(a0, .inr (4, [.int 0, .int 0, .ref a1, .ref a2, .ref a3, .ref a4, .int 0, .ref a5, .ref a6, .ref a7, .ref a8, .int 0, .int 0, .int 0, .int 0, .ref a9, .ref a10, .ref a11, .ref a12, .ref a13])), (a9, .inl (cI, 250, .inl (fun _ => 0))), (a10, .inl (cI, 250, .inl (fun _ => 0))), (a11, .inl (cZ, 62500, .inl (fun _ => 0)))] H := hP
  have hD : va_D A [(a0, .inr (4, [.int 0, .int 0, .ref a1, .ref a2, .ref a3, .ref a4, .int 0, .ref a5, .ref a6, .ref a7, .ref a8, .int 0, .int 0, .int 0, .int 0, .ref a9, .ref a10, .ref a11, .ref a12, .ref a13])), (a9, .inl (cI, 250, .inl (fun _ => 0))), (a10, .inl (cI, 250, .inl (fun _ => 0))), (a11, .inl (cZ, 62500, .inl (fun _ => 0)))] := hD
  refine lv_aload_n hx hb dX4_find_5 rfl (lv_at hl 0 rfl) ?_
  refine lv_iconst (v := 1) hx hb dX4_find_6 (by decide) ?_
  refine va_put (D := (dC, dI)) (ci := 4) (v := .int 1) (ty := .boolean) (C := RX4) (T := TX4) (N := 20) hx hb hts inX4 tyX4 tyX4_ok nmX4 hown hK hP hD hS 0 rfl rfl 12 (by decide) (hts _ q699) (fun _ h9 => h9) rfl (by decide +kernel) rfl rfl (Nat.le_of_ble_eq_true rfl) dX4_find_7 (fun H locs hP hD hS => ?_)
  have hP : va_P (dC, dI) vwCl [(a0, .inr (4, [.int 0, .int 0, .ref a1, .ref a2, .ref a3, .ref a4, .int 0, .ref a5, .ref a6, .ref a7, .ref a8, .int 0, .int 1, .int 0, .int 0, .ref a9, .ref a10, .ref a11, .ref a12, .ref a13])), (a9, .inl (cI, 250, .inl (fun _ => 0))), (a10, .inl (cI, 250, .inl (fun _ => 0))), (a11, .inl (cZ, 62500, .inl (fun _ => 0)))] H := hP
  have hD : va_D A [(a0, .inr (4, [.int 0, .int 0, .ref a1, .ref a2, .ref a3, .ref a4, .int 0, .ref a5, .ref a6, .ref a7, .ref a8, .int 0, .int 1, .int 0, .int 0, .ref a9, .ref a10, .ref a11, .ref a12, .ref a13])), (a9, .inl (cI, 250, .inl (fun _ => 0))), (a10, .inl (cI, 250, .inl (fun _ => 0))), (a11, .inl (cZ, 62500, .inl (fun _ => 0)))] := hD
  refine lv_aload_n hx hb dX4_find_10 rfl (lv_at hl 0 rfl) ?_
  refine va_get (D := (dC, dI)) (ci := 4) (v := .int 0) (C := RX4) (T := TX4) (N := 20) hx hb hts inX4 hown hK hP 0 rfl rfl 1 (by decide) (hts _ q688) (fun _ h9 => h9) rfl dX4_find_11 ?_
  refine xc_S (wc := []) (As := [.int 0]) (rest := []) (wr := [(a0, .inr (4, [.int 0, .int 0, .ref a1, .ref a2, .ref a3, .ref a4, .int 0, .ref a5, .ref a6, .ref a7, .ref a8, .int 0, .int 1, .int 0, .int 0, .ref a9, .ref a10, .ref a11, .ref a12, .ref a13])), (a9, .inl (cI, 250, .inl (fun _ => 0))), (a10, .inl (cI, 250, .inl (fun _ => 0))), (a11, .inl (cZ, 62500, .inl (fun _ => 0)))]) ⟨hx, hb, hml, hown, hts⟩ (kX4_power_0 l hfl dC dI cI cZ cJ cD _) q807 okX4_power hP hD hK hE hS hA [] [0, 1, 2, 3] rfl rfl (by decide) (by decide) (by decide) rfl hl.1 rfl (Nat.le_of_ble_eq_true rfl) ⟨rfl, rfl⟩ ⟨Nat.le_of_ble_eq_true rfl, Nat.le_of_ble_eq_true rfl⟩ ⟨Nat.le_of_ble_eq_true rfl, Nat.le_of_ble_eq_true rfl⟩ dX4_find_14 (fun H locs hP hD hS => ?_)
  have hP : va_P (dC, dI) vwCl [(a0, .inr (4, [.int 0, .int 0, .ref a1, .ref a2, .ref a3, .ref a4, .int 0, .ref a5, .ref a6, .ref a7, .ref a8, .int 0, .int 1, .int 0, .int 0, .ref a9, .ref a10, .ref a11, .ref a12, .ref a13])), (a9, .inl (cI, 250, .inl (fun _ => 0))), (a10, .inl (cI, 250, .inl (fun _ => 0))), (a11, .inl (cZ, 62500, .inl (fun _ => 0)))] H := hP
  have hD : va_D A [(a0, .inr (4, [.int 0, .int 0, .ref a1, .ref a2, .ref a3, .ref a4, .int 0, .ref a5, .ref a6, .ref a7, .ref a8, .int 0, .int 1, .int 0, .int 0, .ref a9, .ref a10, .ref a11, .ref a12, .ref a13])), (a9, .inl (cI, 250, .inl (fun _ => 0))), (a10, .inl (cI, 250, .inl (fun _ => 0))), (a11, .inl (cZ, 62500, .inl (fun _ => 0)))] := hD
  refine W.eq (g2 := F0 m 17 ls [.int 1]) rfl ?_
  refine lv_istore_n (lv' := [(1, .int 1), (0, .ref a0)]) hx hb dX4_find_17 rfl hl (by decide) rfl (fun ls hl => ?_)
  refine lv_iconst (v := 0) hx hb dX4_find_18 (by decide) ?_
  refine lv_istore_n (lv' := [(2, .int 0), (1, .int 1), (0, .ref a0)]) hx hb dX4_find_19 rfl hl (by decide) rfl (fun ls hl => ?_)
  refine lv_iload_n hx hb dX4_find_20 rfl (lv_at hl 0 rfl) ?_
  refine lv_iload_n hx hb dX4_find_21 rfl (lv_at hl 1 rfl) ?_
  refine lv_icmp_ge (tgt := 67) hx hb dX4_find_22 (by decide) (fun h9 => absurd h9 (by decide)) (fun _ => ?_)
  refine lv_aload_n hx hb dX4_find_25 rfl (lv_at hl 2 rfl) ?_
  refine va_get (D := (dC, dI)) (ci := 4) (v := .int 1) (C := RX4) (T := TX4) (N := 20) hx hb hts inX4 hown hK hP 0 rfl rfl 12 (by decide) (hts _ q699) (fun _ h9 => h9) rfl dX4_find_26 ?_
  refine lv_if_eq (tgt := 67) hx hb dX4_find_29 (by decide) (fun h9 => absurd h9 (by decide)) (fun _ => ?_)
  refine lv_aload_n hx hb dX4_find_32 rfl (lv_at hl 2 rfl) ?_
  refine lv_iconst (v := 2) hx hb dX4_find_33 (by decide) ?_
  refine lv_iload_n hx hb dX4_find_34 rfl (lv_at hl 0 rfl) ?_
  refine lv_imul hx hb dX4_find_35 ?_
  refine tI (v := 0) (by decide +kernel) ?_
  refine xc_V (b := a0) (wc := [(a0, .inr (4, [.int 0, .int 0, .ref a1, .ref a2, .ref a3, .ref a4, .int 0, .ref a5, .ref a6, .ref a7, .ref a8, .int 0, .int 1, .int 0, .int 0, .ref a9, .ref a10, .ref a11, .ref a12, .ref a13]))]) (As := [.int 0]) (rest := []) (wr := [(a9, .inl (cI, 250, .inl (fun _ => 0))), (a10, .inl (cI, 250, .inl (fun _ => 0))), (a11, .inl (cZ, 62500, .inl (fun _ => 0)))]) ⟨hx, hb, hml, hown, hts⟩ (kX4_isAllowed_0 l hfl dC dI cI cZ cJ cD a0 a1 a2 a3 a4 a5 a6 a7 a8 a9 a10 a11 a12 a13 _) q810 okX4_isAllowed hP hD hK hE hS hA [0] [1, 2, 3] rfl rfl (by decide) (by decide) (by decide) (ci := 4) rfl 0 rfl rfl rfl hl.1 rfl (Nat.le_of_ble_eq_true rfl) ⟨rfl, rfl⟩ ⟨Nat.le_of_ble_eq_true rfl, Nat.le_of_ble_eq_true rfl⟩ ⟨Nat.le_of_ble_eq_true rfl, Nat.le_of_ble_eq_true rfl⟩ dX4_find_36 (fun H locs hP hD hS => ?_)
  have hP : va_P (dC, dI) vwCl [(a9, .inl (cI, 250, .inl (fun _ => 0))), (a10, .inl (cI, 250, .inl (fun _ => 0))), (a11, .inl (cZ, 62500, .inl (fun _ => 0))), (a0, .inr (4, [.int 0, .int 0, .ref a1, .ref a2, .ref a3, .ref a4, .int 0, .ref a5, .ref a6, .ref a7, .ref a8, .int 0, .int 1, .int 0, .int 0, .ref a9, .ref a10, .ref a11, .ref a12, .ref a13]))] H := hP
  have hD : va_D A [(a9, .inl (cI, 250, .inl (fun _ => 0))), (a10, .inl (cI, 250, .inl (fun _ => 0))), (a11, .inl (cZ, 62500, .inl (fun _ => 0))), (a0, .inr (4, [.int 0, .int 0, .ref a1, .ref a2, .ref a3, .ref a4, .int 0, .ref a5, .ref a6, .ref a7, .ref a8, .int 0, .int 1, .int 0, .int 0, .ref a9, .ref a10, .ref a11, .ref a12, .ref a13]))] := hD
  refine W.eq (g2 := F0 m 39 ls [.int 1]) rfl ?_
  refine lv_if_eq (tgt := 61) hx hb dX4_find_39 (by decide) (fun h9 => absurd h9 (by decide)) (fun _ => ?_)
  refine lv_aload_n hx hb dX4_find_42 rfl (lv_at hl 2 rfl) ?_
  refine lv_iconst (v := 2) hx hb dX4_find_43 (by decide) ?_
  refine lv_iload_n hx hb dX4_find_44 rfl (lv_at hl 0 rfl) ?_
  refine lv_imul hx hb dX4_find_45 ?_
  refine tI (v := 0) (by decide +kernel) ?_
  refine xc_V (b := a0) (wc := [(a0, .inr (4, [.int 0, .int 0, .ref a1, .ref a2, .ref a3, .ref a4, .int 0, .ref a5, .ref a6, .ref a7, .ref a8, .int 0, .int 1, .int 0, .int 0, .ref a9, .ref a10, .ref a11, .ref a12, .ref a13]))]) (As := [.int 0]) (rest := []) (wr := [(a9, .inl (cI, 250, .inl (fun _ => 0))), (a10, .inl (cI, 250, .inl (fun _ => 0))), (a11, .inl (cZ, 62500, .inl (fun _ => 0)))]) ⟨hx, hb, hml, hown, hts⟩ (kX4_isGiven_0 l hfl dC dI cI cZ cJ cD a0 a1 a2 a3 a4 a5 a6 a7 a8 a9 a10 a11 a12 a13 _) q833 okX4_isGiven hP hD hK hE hS hA [3] [0, 1, 2] rfl rfl (by decide) (by decide) (by decide) (ci := 4) rfl 3 rfl rfl rfl hl.1 rfl (Nat.le_of_ble_eq_true rfl) ⟨rfl, rfl⟩ ⟨Nat.le_of_ble_eq_true rfl, Nat.le_of_ble_eq_true rfl⟩ ⟨Nat.le_of_ble_eq_true rfl, Nat.le_of_ble_eq_true rfl⟩ dX4_find_46 (fun H locs hP hD hS => ?_)
  have hP : va_P (dC, dI) vwCl [(a9, .inl (cI, 250, .inl (fun _ => 0))), (a10, .inl (cI, 250, .inl (fun _ => 0))), (a11, .inl (cZ, 62500, .inl (fun _ => 0))), (a0, .inr (4, [.int 0, .int 0, .ref a1, .ref a2, .ref a3, .ref a4, .int 0, .ref a5, .ref a6, .ref a7, .ref a8, .int 0, .int 1, .int 0, .int 0, .ref a9, .ref a10, .ref a11, .ref a12, .ref a13]))] H := hP
  have hD : va_D A [(a9, .inl (cI, 250, .inl (fun _ => 0))), (a10, .inl (cI, 250, .inl (fun _ => 0))), (a11, .inl (cZ, 62500, .inl (fun _ => 0))), (a0, .inr (4, [.int 0, .int 0, .ref a1, .ref a2, .ref a3, .ref a4, .int 0, .ref a5, .ref a6, .ref a7, .ref a8, .int 0, .int 1, .int 0, .int 0, .ref a9, .ref a10, .ref a11, .ref a12, .ref a13]))] := hD
  refine W.eq (g2 := F0 m 49 ls [.int 1]) rfl ?_
  refine lv_if_eq (tgt := 61) hx hb dX4_find_49 (by decide) (fun h9 => absurd h9 (by decide)) (fun _ => ?_)
  refine lv_aload_n hx hb dX4_find_52 rfl (lv_at hl 2 rfl) ?_
  refine lv_iconst (v := 2) hx hb dX4_find_53 (by decide) ?_
  refine lv_iload_n hx hb dX4_find_54 rfl (lv_at hl 0 rfl) ?_
  refine lv_imul hx hb dX4_find_55 ?_
  refine tI (v := 0) (by decide +kernel) ?_
  refine lv_iconst (v := 0) hx hb dX4_find_56 (by decide) ?_
  refine xc_V (b := a0) (wc := [(a9, .inl (cI, 250, .inl (fun _ => 0))), (a10, .inl (cI, 250, .inl (fun _ => 0))), (a0, .inr (4, [.int 0, .int 0, .ref a1, .ref a2, .ref a3, .ref a4, .int 0, .ref a5, .ref a6, .ref a7, .ref a8, .int 0, .int 1, .int 0, .int 0, .ref a9, .ref a10, .ref a11, .ref a12, .ref a13]))]) (As := [.int 0, .int 0]) (rest := []) (wr := [(a11, .inl (cZ, 62500, .inl (fun _ => 0)))]) ⟨hx, hb, hml, hown, hts⟩ (kX4_add_0 l hfl dC dI cI cZ cJ cD a0 a9 a10 a1 a2 a3 a4 a5 a6 a7 a8 a11 a12 a13 _) q837 okX4_add hP hD hK hE hS hA [0, 1, 3] [2] rfl rfl (by decide) (by decide) (by decide) (ci := 4) rfl 3 rfl rfl rfl hl.1 rfl (Nat.le_of_ble_eq_true rfl) ⟨rfl, rfl⟩ ⟨Nat.le_of_ble_eq_true rfl, Nat.le_of_ble_eq_true rfl⟩ ⟨Nat.le_of_ble_eq_true rfl, Nat.le_of_ble_eq_true rfl⟩ dX4_find_57 (fun H locs hP hD hS => ?_)
  have hP : va_P (dC, dI) vwCl [(a11, .inl (cZ, 62500, .inl (fun _ => 0))), (a9, .inl (cI, 250, .inl (upd (fun _ => 0) 0 0))), (a10, .inl (cI, 250, .inl (upd (fun _ => 0) 0 0))), (a0, .inr (4, [.int 0, .int 0, .ref a1, .ref a2, .ref a3, .ref a4, .int 0, .ref a5, .ref a6, .ref a7, .ref a8, .int 0, .int 1, .int 1, .int 0, .ref a9, .ref a10, .ref a11, .ref a12, .ref a13]))] H := hP
  have hD : va_D A [(a11, .inl (cZ, 62500, .inl (fun _ => 0))), (a9, .inl (cI, 250, .inl (upd (fun _ => 0) 0 0))), (a10, .inl (cI, 250, .inl (upd (fun _ => 0) 0 0))), (a0, .inr (4, [.int 0, .int 0, .ref a1, .ref a2, .ref a3, .ref a4, .int 0, .ref a5, .ref a6, .ref a7, .ref a8, .int 0, .int 1, .int 1, .int 0, .ref a9, .ref a10, .ref a11, .ref a12, .ref a13]))] := hD
  refine W.eq (g2 := F0 m 60 ls [.int 1]) rfl ?_
  refine lv_pop hx hb dX4_find_60 rfl ?_
  refine lv_iinc (v := 1) (lv' := [(2, .int 1), (1, .int 1), (0, .ref a0)]) hx hb dX4_find_61 hl (k := 0) rfl (by decide +kernel) (by decide) rfl (fun ls hl => ?_)
  refine lv_goto (tgt := 20) hx hb dX4_find_64 (by decide) ?_
  refine lv_iload_n hx hb dX4_find_20 rfl (lv_at hl 0 rfl) ?_
  refine lv_iload_n hx hb dX4_find_21 rfl (lv_at hl 1 rfl) ?_
  refine lv_icmp_ge (tgt := 67) hx hb dX4_find_22 (by decide) (fun _ => ?_) (fun h9 => absurd (by decide) h9)
  refine lv_aload_n hx hb dX4_find_67 rfl (lv_at hl 2 rfl) ?_
  refine lv_aload_n hx hb dX4_find_68 rfl (lv_at hl 2 rfl) ?_
  refine va_get (D := (dC, dI)) (ci := 4) (v := .int 1) (C := RX4) (T := TX4) (N := 20) hx hb hts inX4 hown hK hP 3 rfl rfl 13 (by decide) (hts _ q700) (fun _ h9 => h9) rfl dX4_find_69 ?_
  refine va_put (D := (dC, dI)) (ci := 4) (v := .int 1) (ty := .int) (C := RX4) (T := TX4) (N := 20) hx hb hts inX4 tyX4 tyX4_ok nmX4 hown hK hP hD hS 3 rfl rfl 14 (by decide) (hts _ q701) (fun _ h9 => h9) rfl (by decide +kernel) rfl rfl (Nat.le_of_ble_eq_true rfl) dX4_find_72 (fun H locs hP hD hS => ?_)
  have hP : va_P (dC, dI) vwCl [(a11, .inl (cZ, 62500, .inl (fun _ => 0))), (a9, .inl (cI, 250, .inl (upd (fun _ => 0) 0 0))), (a10, .inl (cI, 250, .inl (upd (fun _ => 0) 0 0))), (a0, .inr (4, [.int 0, .int 0, .ref a1, .ref a2, .ref a3, .ref a4, .int 0, .ref a5, .ref a6, .ref a7, .ref a8, .int 0, .int 1, .int 1, .int 1, .ref a9, .ref a10, .ref a11, .ref a12, .ref a13]))] H := hP
  have hD : va_D A [(a11, .inl (cZ, 62500, .inl (fun _ => 0))), (a9, .inl (cI, 250, .inl (upd (fun _ => 0) 0 0))), (a10, .inl (cI, 250, .inl (upd (fun _ => 0) 0 0))), (a0, .inr (4, [.int 0, .int 0, .ref a1, .ref a2, .ref a3, .ref a4, .int 0, .ref a5, .ref a6, .ref a7, .ref a8, .int 0, .int 1, .int 1, .int 1, .ref a9, .ref a10, .ref a11, .ref a12, .ref a13]))] := hD
  refine lv_iconst (v := 0) hx hb dX4_find_75 (by decide) ?_
  refine lv_istore_n (lv' := [(2, .int 0), (1, .int 1), (0, .ref a0)]) hx hb dX4_find_76 rfl hl (by decide) rfl (fun ls hl => ?_)
  refine lv_iload_n hx hb dX4_find_77 rfl (lv_at hl 0 rfl) ?_
  refine lv_aload_n hx hb dX4_find_78 rfl (lv_at hl 2 rfl) ?_
  refine va_get (D := (dC, dI)) (ci := 4) (v := .int 1) (C := RX4) (T := TX4) (N := 20) hx hb hts inX4 hown hK hP 3 rfl rfl 13 (by decide) (hts _ q700) (fun _ h9 => h9) rfl dX4_find_79 ?_
  refine lv_icmp_ge (tgt := 104) hx hb dX4_find_82 (by decide) (fun h9 => absurd h9 (by decide)) (fun _ => ?_)
  refine lv_aload_n hx hb dX4_find_85 rfl (lv_at hl 2 rfl) ?_
  refine va_get (D := (dC, dI)) (ci := 4) (v := .int 1) (C := RX4) (T := TX4) (N := 20) hx hb hts inX4 hown hK hP 3 rfl rfl 12 (by decide) (hts _ q699) (fun _ h9 => h9) rfl dX4_find_86 ?_
  refine lv_if_eq (tgt := 104) hx hb dX4_find_89 (by decide) (fun h9 => absurd h9 (by decide)) (fun _ => ?_)
  refine lv_aload_n hx hb dX4_find_92 rfl (lv_at hl 2 rfl) ?_
  refine lv_iload_n hx hb dX4_find_93 rfl (lv_at hl 0 rfl) ?_
  refine xc_V (b := a0) (wc := [(a9, .inl (cI, 250, .inl (upd (fun _ => 0) 0 0))), (a10, .inl (cI, 250, .inl (upd (fun _ => 0) 0 0))), (a0, .inr (4, [.int 0, .int 0, .ref a1, .ref a2, .ref a3, .ref a4, .int 0, .ref a5, .ref a6, .ref a7, .ref a8, .int 0, .int 1, .int 1, .int 1, .ref a9, .ref a10, .ref a11, .ref a12, .ref a13]))]) (As := [.int 0]) (rest := []) (wr := [(a11, .inl (cZ, 62500, .inl (fun _ => 0)))]) ⟨hx, hb, hml, hown, hts⟩ (kX4_expand_0 l hfl dC dI cI cZ cJ cD a0 a9 a10 a1 a2 a3 a4 a5 a6 a7 a8 a11 a12 a13 _) q845 okX4_expand hP hD hK hE hS hA [1, 2, 3] [0] rfl rfl (by decide) (by decide) (by decide) (ci := 4) rfl 3 rfl rfl rfl hl.1 rfl (Nat.le_of_ble_eq_true rfl) ⟨rfl, rfl⟩ ⟨Nat.le_of_ble_eq_true rfl, Nat.le_of_ble_eq_true rfl⟩ ⟨Nat.le_of_ble_eq_true rfl, Nat.le_of_ble_eq_true rfl⟩ dX4_find_94 (fun H locs hP hD hS => ?_)
  have hP : va_P (dC, dI) vwCl [(a11, .inl (cZ, 62500, .inl (fun _ => 0))), (a9, .inl (cI, 250, .inl (upd (upd (fun _ => 0) 0 0) 1 1))), (a10, .inl (cI, 250, .inl (upd (upd (fun _ => 0) 0 0) 1 1))), (a0, .inr (4, [.int 0, .int 0, .ref a1, .ref a2, .ref a3, .ref a4, .int 0, .ref a5, .ref a6, .ref a7, .ref a8, .int 0, .int 1, .int 2, .int 1, .ref a9, .ref a10, .ref a11, .ref a12, .ref a13]))] H := hP
  have hD : va_D A [(a11, .inl (cZ, 62500, .inl (fun _ => 0))), (a9, .inl (cI, 250, .inl (upd (upd (fun _ => 0) 0 0) 1 1))), (a10, .inl (cI, 250, .inl (upd (upd (fun _ => 0) 0 0) 1 1))), (a0, .inr (4, [.int 0, .int 0, .ref a1, .ref a2, .ref a3, .ref a4, .int 0, .ref a5, .ref a6, .ref a7, .ref a8, .int 0, .int 1, .int 2, .int 1, .ref a9, .ref a10, .ref a11, .ref a12, .ref a13]))] := hD
  refine W.eq (g2 := F0 m 97 ls [.int 1]) rfl ?_
  refine lv_pop hx hb dX4_find_97 rfl ?_
  refine lv_iinc (v := 1) (lv' := [(2, .int 1), (1, .int 1), (0, .ref a0)]) hx hb dX4_find_98 hl (k := 0) rfl (by decide +kernel) (by decide) rfl (fun ls hl => ?_)
  refine lv_goto (tgt := 77) hx hb dX4_find_101 (by decide) ?_
  refine lv_iload_n hx hb dX4_find_77 rfl (lv_at hl 0 rfl) ?_
  refine lv_aload_n hx hb dX4_find_78 rfl (lv_at hl 2 rfl) ?_
  refine va_get (D := (dC, dI)) (ci := 4) (v := .int 2) (C := RX4) (T := TX4) (N := 20) hx hb hts inX4 hown hK hP 3 rfl rfl 13 (by decide) (hts _ q700) (fun _ h9 => h9) rfl dX4_find_79 ?_
  refine lv_icmp_ge (tgt := 104) hx hb dX4_find_82 (by decide) (fun h9 => absurd h9 (by decide)) (fun _ => ?_)
  refine lv_aload_n hx hb dX4_find_85 rfl (lv_at hl 2 rfl) ?_
  refine va_get (D := (dC, dI)) (ci := 4) (v := .int 1) (C := RX4) (T := TX4) (N := 20) hx hb hts inX4 hown hK hP 3 rfl rfl 12 (by decide) (hts _ q699) (fun _ h9 => h9) rfl dX4_find_86 ?_
  refine lv_if_eq (tgt := 104) hx hb dX4_find_89 (by decide) (fun h9 => absurd h9 (by decide)) (fun _ => ?_)
  refine lv_aload_n hx hb dX4_find_92 rfl (lv_at hl 2 rfl) ?_
  refine lv_iload_n hx hb dX4_find_93 rfl (lv_at hl 0 rfl) ?_
  refine xc_V (b := a0) (wc := [(a9, .inl (cI, 250, .inl (upd (upd (fun _ => 0) 0 0) 1 1))), (a0, .inr (4, [.int 0, .int 0, .ref a1, .ref a2, .ref a3, .ref a4, .int 0, .ref a5, .ref a6, .ref a7, .ref a8, .int 0, .int 1, .int 2, .int 1, .ref a9, .ref a10, .ref a11, .ref a12, .ref a13]))]) (As := [.int 1]) (rest := []) (wr := [(a11, .inl (cZ, 62500, .inl (fun _ => 0))), (a10, .inl (cI, 250, .inl (upd (upd (fun _ => 0) 0 0) 1 1)))]) ⟨hx, hb, hml, hown, hts⟩ (kX4_expand_1 l hfl dC dI cI cZ cJ cD a0 a9 a1 a2 a3 a4 a5 a6 a7 a8 a10 a11 a12 a13 _) q845 okX4_expand hP hD hK hE hS hA [1, 3] [0, 2] rfl rfl (by decide) (by decide) (by decide) (ci := 4) rfl 3 rfl rfl rfl hl.1 rfl (Nat.le_of_ble_eq_true rfl) ⟨rfl, rfl⟩ ⟨Nat.le_of_ble_eq_true rfl, Nat.le_of_ble_eq_true rfl⟩ ⟨Nat.le_of_ble_eq_true rfl, Nat.le_of_ble_eq_true rfl⟩ dX4_find_94 (fun H locs hP hD hS => ?_)
  have hP : va_P (dC, dI) vwCl [(a11, .inl (cZ, 62500, .inl (fun _ => 0))), (a10, .inl (cI, 250, .inl (upd (upd (fun _ => 0) 0 0) 1 1))), (a9, .inl (cI, 250, .inl (upd (upd (fun _ => 0) 0 0) 1 1))), (a0, .inr (4, [.int 0, .int 0, .ref a1, .ref a2, .ref a3, .ref a4, .int 0, .ref a5, .ref a6, .ref a7, .ref a8, .int 0, .int 1, .int 2, .int 1, .ref a9, .ref a10, .ref a11, .ref a12, .ref a13]))] H := hP
  have hD : va_D A [(a11, .inl (cZ, 62500, .inl (fun _ => 0))), (a10, .inl (cI, 250, .inl (upd (upd (fun _ => 0) 0 0) 1 1))), (a9, .inl (cI, 250, .inl (upd (upd (fun _ => 0) 0 0) 1 1))), (a0, .inr (4, [.int 0, .int 0, .ref a1, .ref a2, .ref a3, .ref a4, .int 0, .ref a5, .ref a6, .ref a7, .ref a8, .int 0, .int 1, .int 2, .int 1, .ref a9, .ref a10, .ref a11, .ref a12, .ref a13]))] := hD
  refine W.eq (g2 := F0 m 97 ls [.int 1]) rfl ?_
  refine lv_pop hx hb dX4_find_97 rfl ?_
  refine lv_iinc (v := 2) (lv' := [(2, .int 2), (1, .int 1), (0, .ref a0)]) hx hb dX4_find_98 hl (k := 0) rfl (by decide +kernel) (by decide) rfl (fun ls hl => ?_)
  refine lv_goto (tgt := 77) hx hb dX4_find_101 (by decide) ?_
  refine lv_iload_n hx hb dX4_find_77 rfl (lv_at hl 0 rfl) ?_
  refine lv_aload_n hx hb dX4_find_78 rfl (lv_at hl 2 rfl) ?_
  refine va_get (D := (dC, dI)) (ci := 4) (v := .int 2) (C := RX4) (T := TX4) (N := 20) hx hb hts inX4 hown hK hP 3 rfl rfl 13 (by decide) (hts _ q700) (fun _ h9 => h9) rfl dX4_find_79 ?_
  refine lv_icmp_ge (tgt := 104) hx hb dX4_find_82 (by decide) (fun _ => ?_) (fun h9 => absurd (by decide) h9)
  refine lv_iconst (v := 0) hx hb dX4_find_104 (by decide) ?_
  refine lv_istore_n (lv' := [(2, .int 0), (1, .int 1), (0, .ref a0)]) hx hb dX4_find_105 rfl hl (by decide) rfl (fun ls hl => ?_)
  refine lv_iload_n hx hb dX4_find_106 rfl (lv_at hl 0 rfl) ?_
  refine lv_aload_n hx hb dX4_find_107 rfl (lv_at hl 2 rfl) ?_
  refine va_get (D := (dC, dI)) (ci := 4) (v := .int 2) (C := RX4) (T := TX4) (N := 20) hx hb hts inX4 hown hK hP 3 rfl rfl 13 (by decide) (hts _ q700) (fun _ h9 => h9) rfl dX4_find_108 ?_
  refine lv_icmp_ge (tgt := 164) hx hb dX4_find_111 (by decide) (fun h9 => absurd h9 (by decide)) (fun _ => ?_)
  refine lv_iconst (v := 0) hx hb dX4_find_114 (by decide) ?_
  refine lv_istore_n (lv' := [(3, .int 0), (2, .int 0), (1, .int 1), (0, .ref a0)]) hx hb dX4_find_115 rfl hl (by decide) rfl (fun ls hl => ?_)
  refine lv_iload_n hx hb dX4_find_116 rfl (lv_at hl 0 rfl) ?_
  refine lv_aload_n hx hb dX4_find_117 rfl (lv_at hl 3 rfl) ?_
  refine va_get (D := (dC, dI)) (ci := 4) (v := .int 2) (C := RX4) (T := TX4) (N := 20) hx hb hts inX4 hown hK hP 3 rfl rfl 13 (by decide) (hts _ q700) (fun _ h9 => h9) rfl dX4_find_118 ?_
  refine lv_icmp_ge (tgt := 158) hx hb dX4_find_121 (by decide) (fun h9 => absurd h9 (by decide)) (fun _ => ?_)
  refine lv_aload_n hx hb dX4_find_124 rfl (lv_at hl 3 rfl) ?_
  refine va_get (D := (dC, dI)) (ci := 4) (v := .ref a11) (C := RX4) (T := TX4) (N := 20) hx hb hts inX4 hown hK hP 3 rfl rfl 17 (by decide) (hts _ q704) (fun _ h9 => h9) rfl dX4_find_125 ?_
  refine lv_sipush (v := 250) hx hb dX4_find_128 (by decide) ?_
  refine lv_iload_n hx hb dX4_find_131 rfl (lv_at hl 1 rfl) ?_
  refine lv_imul hx hb dX4_find_132 ?_
  refine tI (v := 0) (by decide +kernel) ?_
  refine lv_iload_n hx hb dX4_find_133 rfl (lv_at hl 0 rfl) ?_
  refine lv_iadd hx hb dX4_find_134 ?_
  refine tI (v := 0) (by decide +kernel) ?_
  refine lv_aload_n hx hb dX4_find_135 rfl (lv_at hl 3 rfl) ?_
  refine lv_aload_n hx hb dX4_find_136 rfl (lv_at hl 3 rfl) ?_
  refine va_get (D := (dC, dI)) (ci := 4) (v := .ref a9) (C := RX4) (T := TX4) (N := 20) hx hb hts inX4 hown hK hP 3 rfl rfl 15 (by decide) (hts _ q702) (fun _ h9 => h9) rfl dX4_find_137 ?_
  refine lv_iload_n hx hb dX4_find_140 rfl (lv_at hl 1 rfl) ?_
  refine xa_iald (k := 0) (v := 0) hx hb hK hP 2 0 rfl rfl (by decide) (by decide +kernel) (Nat.le_of_ble_eq_true rfl) rfl dX4_find_141 ?_
  refine lv_aload_n hx hb dX4_find_142 rfl (lv_at hl 3 rfl) ?_
  refine va_get (D := (dC, dI)) (ci := 4) (v := .ref a9) (C := RX4) (T := TX4) (N := 20) hx hb hts inX4 hown hK hP 3 rfl rfl 15 (by decide) (hts _ q702) (fun _ h9 => h9) rfl dX4_find_143 ?_
  refine lv_iload_n hx hb dX4_find_146 rfl (lv_at hl 0 rfl) ?_
  refine xa_iald (k := 0) (v := 0) hx hb hK hP 2 0 rfl rfl (by decide) (by decide +kernel) (Nat.le_of_ble_eq_true rfl) rfl dX4_find_147 ?_
  refine xc_V (b := a0) (wc := []) (As := [.int 0, .int 0]) (rest := [.int 0, .ref a11]) (wr := [(a11, .inl (cZ, 62500, .inl (fun _ => 0))), (a10, .inl (cI, 250, .inl (upd (upd (fun _ => 0) 0 0) 1 1))), (a9, .inl (cI, 250, .inl (upd (upd (fun _ => 0) 0 0) 1 1))), (a0, .inr (4, [.int 0, .int 0, .ref a1, .ref a2, .ref a3, .ref a4, .int 0, .ref a5, .ref a6, .ref a7, .ref a8, .int 0, .int 1, .int 2, .int 1, .ref a9, .ref a10, .ref a11, .ref a12, .ref a13]))]) ⟨hx, hb, hml, hown, hts⟩ (kX4_follows_2 l hfl dC dI cI cZ cJ cD a0 _) q857 okX4_follows hP hD hK hE hS hA [] [0, 1, 2, 3] rfl rfl (by decide) (by decide) (by decide) (ci := 4) rfl 3 rfl rfl rfl hl.1 rfl (Nat.le_of_ble_eq_true rfl) ⟨rfl, rfl⟩ ⟨Nat.le_of_ble_eq_true rfl, Nat.le_of_ble_eq_true rfl⟩ ⟨Nat.le_of_ble_eq_true rfl, Nat.le_of_ble_eq_true rfl⟩ dX4_find_148 (fun H locs hP hD hS => ?_)
  have hP : va_P (dC, dI) vwCl [(a11, .inl (cZ, 62500, .inl (fun _ => 0))), (a10, .inl (cI, 250, .inl (upd (upd (fun _ => 0) 0 0) 1 1))), (a9, .inl (cI, 250, .inl (upd (upd (fun _ => 0) 0 0) 1 1))), (a0, .inr (4, [.int 0, .int 0, .ref a1, .ref a2, .ref a3, .ref a4, .int 0, .ref a5, .ref a6, .ref a7, .ref a8, .int 0, .int 1, .int 2, .int 1, .ref a9, .ref a10, .ref a11, .ref a12, .ref a13]))] H := hP
  have hD : va_D A [(a11, .inl (cZ, 62500, .inl (fun _ => 0))), (a10, .inl (cI, 250, .inl (upd (upd (fun _ => 0) 0 0) 1 1))), (a9, .inl (cI, 250, .inl (upd (upd (fun _ => 0) 0 0) 1 1))), (a0, .inr (4, [.int 0, .int 0, .ref a1, .ref a2, .ref a3, .ref a4, .int 0, .ref a5, .ref a6, .ref a7, .ref a8, .int 0, .int 1, .int 2, .int 1, .ref a9, .ref a10, .ref a11, .ref a12, .ref a13]))] := hD
  refine W.eq (g2 := F0 m 151 ls [.int 0, .int 0, .ref a11]) rfl ?_
  refine xa_zast (k := 0) (z := 0) (w1 := [(a11, .inl (cZ, 62500, .inl (upd (fun _ => 0) 0 0))), (a10, .inl (cI, 250, .inl (upd (upd (fun _ => 0) 0 0) 1 1))), (a9, .inl (cI, 250, .inl (upd (upd (fun _ => 0) 0 0) 1 1))), (a0, .inr (4, [.int 0, .int 0, .ref a1, .ref a2, .ref a3, .ref a4, .int 0, .ref a5, .ref a6, .ref a7, .ref a8, .int 0, .int 1, .int 2, .int 1, .ref a9, .ref a10, .ref a11, .ref a12, .ref a13]))]) hx hb hK hP hD hS 0 1 rfl rfl (by decide) (by decide +kernel) (Nat.le_of_ble_eq_true rfl) rfl rfl dX4_find_151 (fun H locs hP hD hS => ?_)
  refine lv_iinc (v := 1) (lv' := [(3, .int 1), (2, .int 0), (1, .int 1), (0, .ref a0)]) hx hb dX4_find_152 hl (k := 0) rfl (by decide +kernel) (by decide) rfl (fun ls hl => ?_)
  refine lv_goto (tgt := 116) hx hb dX4_find_155 (by decide) ?_
  refine lv_iload_n hx hb dX4_find_116 rfl (lv_at hl 0 rfl) ?_
  refine lv_aload_n hx hb dX4_find_117 rfl (lv_at hl 3 rfl) ?_
  refine va_get (D := (dC, dI)) (ci := 4) (v := .int 2) (C := RX4) (T := TX4) (N := 20) hx hb hts inX4 hown hK hP 3 rfl rfl 13 (by decide) (hts _ q700) (fun _ h9 => h9) rfl dX4_find_118 ?_
  refine lv_icmp_ge (tgt := 158) hx hb dX4_find_121 (by decide) (fun h9 => absurd h9 (by decide)) (fun _ => ?_)
  refine lv_aload_n hx hb dX4_find_124 rfl (lv_at hl 3 rfl) ?_
  refine va_get (D := (dC, dI)) (ci := 4) (v := .ref a11) (C := RX4) (T := TX4) (N := 20) hx hb hts inX4 hown hK hP 3 rfl rfl 17 (by decide) (hts _ q704) (fun _ h9 => h9) rfl dX4_find_125 ?_
  refine lv_sipush (v := 250) hx hb dX4_find_128 (by decide) ?_
  refine lv_iload_n hx hb dX4_find_131 rfl (lv_at hl 1 rfl) ?_
  refine lv_imul hx hb dX4_find_132 ?_
  refine tI (v := 0) (by decide +kernel) ?_
  refine lv_iload_n hx hb dX4_find_133 rfl (lv_at hl 0 rfl) ?_
  refine lv_iadd hx hb dX4_find_134 ?_
  refine tI (v := 1) (by decide +kernel) ?_
  refine lv_aload_n hx hb dX4_find_135 rfl (lv_at hl 3 rfl) ?_
  refine lv_aload_n hx hb dX4_find_136 rfl (lv_at hl 3 rfl) ?_
  refine va_get (D := (dC, dI)) (ci := 4) (v := .ref a9) (C := RX4) (T := TX4) (N := 20) hx hb hts inX4 hown hK hP 3 rfl rfl 15 (by decide) (hts _ q702) (fun _ h9 => h9) rfl dX4_find_137 ?_
  refine lv_iload_n hx hb dX4_find_140 rfl (lv_at hl 1 rfl) ?_
  refine xa_iald (k := 0) (v := 0) hx hb hK hP 2 0 rfl rfl (by decide) (by decide +kernel) (Nat.le_of_ble_eq_true rfl) rfl dX4_find_141 ?_
  refine lv_aload_n hx hb dX4_find_142 rfl (lv_at hl 3 rfl) ?_
  refine va_get (D := (dC, dI)) (ci := 4) (v := .ref a9) (C := RX4) (T := TX4) (N := 20) hx hb hts inX4 hown hK hP 3 rfl rfl 15 (by decide) (hts _ q702) (fun _ h9 => h9) rfl dX4_find_143 ?_
  refine lv_iload_n hx hb dX4_find_146 rfl (lv_at hl 0 rfl) ?_
  refine xa_iald (k := 1) (v := 1) hx hb hK hP 2 0 rfl rfl (by decide) (by decide +kernel) (Nat.le_of_ble_eq_true rfl) rfl dX4_find_147 ?_
  refine xc_V (b := a0) (wc := [(a0, .inr (4, [.int 0, .int 0, .ref a1, .ref a2, .ref a3, .ref a4, .int 0, .ref a5, .ref a6, .ref a7, .ref a8, .int 0, .int 1, .int 2, .int 1, .ref a9, .ref a10, .ref a11, .ref a12, .ref a13]))]) (As := [.int 0, .int 1]) (rest := [.int 1, .ref a11]) (wr := [(a11, .inl (cZ, 62500, .inl (upd (fun _ => 0) 0 0))), (a10, .inl (cI, 250, .inl (upd (upd (fun _ => 0) 0 0) 1 1))), (a9, .inl (cI, 250, .inl (upd (upd (fun _ => 0) 0 0) 1 1)))]) ⟨hx, hb, hml, hown, hts⟩ (kX4_follows_3 l hfl dC dI cI cZ cJ cD a0 a1 a2 a3 a4 a5 a6 a7 a8 a9 a10 a11 a12 a13 _) q857 okX4_follows hP hD hK hE hS hA [3] [0, 1, 2] rfl rfl (by decide) (by decide) (by decide) (ci := 4) rfl 3 rfl rfl rfl hl.1 rfl (Nat.le_of_ble_eq_true rfl) ⟨rfl, rfl⟩ ⟨Nat.le_of_ble_eq_true rfl, Nat.le_of_ble_eq_true rfl⟩ ⟨Nat.le_of_ble_eq_true rfl, Nat.le_of_ble_eq_true rfl⟩ dX4_find_148 (fun H locs hP hD hS => ?_)
  have hP : va_P (dC, dI) vwCl [(a11, .inl (cZ, 62500, .inl (upd (fun _ => 0) 0 0))), (a10, .inl (cI, 250, .inl (upd (upd (fun _ => 0) 0 0) 1 1))), (a9, .inl (cI, 250, .inl (upd (upd (fun _ => 0) 0 0) 1 1))), (a0, .inr (4, [.int 0, .int 0, .ref a1, .ref a2, .ref a3, .ref a4, .int 0, .ref a5, .ref a6, .ref a7, .ref a8, .int 0, .int 1, .int 2, .int 1, .ref a9, .ref a10, .ref a11, .ref a12, .ref a13]))] H := hP
  have hD : va_D A [(a11, .inl (cZ, 62500, .inl (upd (fun _ => 0) 0 0))), (a10, .inl (cI, 250, .inl (upd (upd (fun _ => 0) 0 0) 1 1))), (a9, .inl (cI, 250, .inl (upd (upd (fun _ => 0) 0 0) 1 1))), (a0, .inr (4, [.int 0, .int 0, .ref a1, .ref a2, .ref a3, .ref a4, .int 0, .ref a5, .ref a6, .ref a7, .ref a8, .int 0, .int 1, .int 2, .int 1, .ref a9, .ref a10, .ref a11, .ref a12, .ref a13]))] := hD
  refine W.eq (g2 := F0 m 151 ls [.int 1, .int 1, .ref a11]) rfl ?_
  refine xa_zast (k := 1) (z := 1) (w1 := [(a11, .inl (cZ, 62500, .inl (upd (upd (fun _ => 0) 0 0) 1 1))), (a10, .inl (cI, 250, .inl (upd (upd (fun _ => 0) 0 0) 1 1))), (a9, .inl (cI, 250, .inl (upd (upd (fun _ => 0) 0 0) 1 1))), (a0, .inr (4, [.int 0, .int 0, .ref a1, .ref a2, .ref a3, .ref a4, .int 0, .ref a5, .ref a6, .ref a7, .ref a8, .int 0, .int 1, .int 2, .int 1, .ref a9, .ref a10, .ref a11, .ref a12, .ref a13]))]) hx hb hK hP hD hS 0 1 rfl rfl (by decide) (by decide +kernel) (Nat.le_of_ble_eq_true rfl) rfl rfl dX4_find_151 (fun H locs hP hD hS => ?_)
  refine lv_iinc (v := 2) (lv' := [(3, .int 2), (2, .int 0), (1, .int 1), (0, .ref a0)]) hx hb dX4_find_152 hl (k := 0) rfl (by decide +kernel) (by decide) rfl (fun ls hl => ?_)
  refine lv_goto (tgt := 116) hx hb dX4_find_155 (by decide) ?_
  refine lv_iload_n hx hb dX4_find_116 rfl (lv_at hl 0 rfl) ?_
  refine lv_aload_n hx hb dX4_find_117 rfl (lv_at hl 3 rfl) ?_
  refine va_get (D := (dC, dI)) (ci := 4) (v := .int 2) (C := RX4) (T := TX4) (N := 20) hx hb hts inX4 hown hK hP 3 rfl rfl 13 (by decide) (hts _ q700) (fun _ h9 => h9) rfl dX4_find_118 ?_
  refine lv_icmp_ge (tgt := 158) hx hb dX4_find_121 (by decide) (fun _ => ?_) (fun h9 => absurd (by decide) h9)
  refine lv_iinc (v := 1) (lv' := [(2, .int 1), (3, .int 2), (1, .int 1), (0, .ref a0)]) hx hb dX4_find_158 hl (k := 1) rfl (by decide +kernel) (by decide) rfl (fun ls hl => ?_)
  refine lv_goto (tgt := 106) hx hb dX4_find_161 (by decide) ?_
  refine lv_iload_n hx hb dX4_find_106 rfl (lv_at hl 0 rfl) ?_
  refine lv_aload_n hx hb dX4_find_107 rfl (lv_at hl 3 rfl) ?_
  refine va_get (D := (dC, dI)) (ci := 4) (v := .int 2) (C := RX4) (T := TX4) (N := 20) hx hb hts inX4 hown hK hP 3 rfl rfl 13 (by decide) (hts _ q700) (fun _ h9 => h9) rfl dX4_find_108 ?_
  refine lv_icmp_ge (tgt := 164) hx hb dX4_find_111 (by decide) (fun h9 => absurd h9 (by decide)) (fun _ => ?_)
  refine lv_iconst (v := 0) hx hb dX4_find_114 (by decide) ?_
  refine lv_istore_n (lv' := [(3, .int 0), (2, .int 1), (1, .int 1), (0, .ref a0)]) hx hb dX4_find_115 rfl hl (by decide) rfl (fun ls hl => ?_)
  refine lv_iload_n hx hb dX4_find_116 rfl (lv_at hl 0 rfl) ?_
  refine lv_aload_n hx hb dX4_find_117 rfl (lv_at hl 3 rfl) ?_
  refine va_get (D := (dC, dI)) (ci := 4) (v := .int 2) (C := RX4) (T := TX4) (N := 20) hx hb hts inX4 hown hK hP 3 rfl rfl 13 (by decide) (hts _ q700) (fun _ h9 => h9) rfl dX4_find_118 ?_
  refine lv_icmp_ge (tgt := 158) hx hb dX4_find_121 (by decide) (fun h9 => absurd h9 (by decide)) (fun _ => ?_)
  refine lv_aload_n hx hb dX4_find_124 rfl (lv_at hl 3 rfl) ?_
  refine va_get (D := (dC, dI)) (ci := 4) (v := .ref a11) (C := RX4) (T := TX4) (N := 20) hx hb hts inX4 hown hK hP 3 rfl rfl 17 (by decide) (hts _ q704) (fun _ h9 => h9) rfl dX4_find_125 ?_
  refine lv_sipush (v := 250) hx hb dX4_find_128 (by decide) ?_
  refine lv_iload_n hx hb dX4_find_131 rfl (lv_at hl 1 rfl) ?_
  refine lv_imul hx hb dX4_find_132 ?_
  refine tI (v := 250) (by decide +kernel) ?_
  refine lv_iload_n hx hb dX4_find_133 rfl (lv_at hl 0 rfl) ?_
  refine lv_iadd hx hb dX4_find_134 ?_
  refine tI (v := 250) (by decide +kernel) ?_
  refine lv_aload_n hx hb dX4_find_135 rfl (lv_at hl 3 rfl) ?_
  refine lv_aload_n hx hb dX4_find_136 rfl (lv_at hl 3 rfl) ?_
  refine va_get (D := (dC, dI)) (ci := 4) (v := .ref a9) (C := RX4) (T := TX4) (N := 20) hx hb hts inX4 hown hK hP 3 rfl rfl 15 (by decide) (hts _ q702) (fun _ h9 => h9) rfl dX4_find_137 ?_
  refine lv_iload_n hx hb dX4_find_140 rfl (lv_at hl 1 rfl) ?_
  refine xa_iald (k := 1) (v := 1) hx hb hK hP 2 0 rfl rfl (by decide) (by decide +kernel) (Nat.le_of_ble_eq_true rfl) rfl dX4_find_141 ?_
  refine lv_aload_n hx hb dX4_find_142 rfl (lv_at hl 3 rfl) ?_
  refine va_get (D := (dC, dI)) (ci := 4) (v := .ref a9) (C := RX4) (T := TX4) (N := 20) hx hb hts inX4 hown hK hP 3 rfl rfl 15 (by decide) (hts _ q702) (fun _ h9 => h9) rfl dX4_find_143 ?_
  refine lv_iload_n hx hb dX4_find_146 rfl (lv_at hl 0 rfl) ?_
  refine xa_iald (k := 0) (v := 0) hx hb hK hP 2 0 rfl rfl (by decide) (by decide +kernel) (Nat.le_of_ble_eq_true rfl) rfl dX4_find_147 ?_
  refine xc_V (b := a0) (wc := []) (As := [.int 1, .int 0]) (rest := [.int 250, .ref a11]) (wr := [(a11, .inl (cZ, 62500, .inl (upd (upd (fun _ => 0) 0 0) 1 1))), (a10, .inl (cI, 250, .inl (upd (upd (fun _ => 0) 0 0) 1 1))), (a9, .inl (cI, 250, .inl (upd (upd (fun _ => 0) 0 0) 1 1))), (a0, .inr (4, [.int 0, .int 0, .ref a1, .ref a2, .ref a3, .ref a4, .int 0, .ref a5, .ref a6, .ref a7, .ref a8, .int 0, .int 1, .int 2, .int 1, .ref a9, .ref a10, .ref a11, .ref a12, .ref a13]))]) ⟨hx, hb, hml, hown, hts⟩ (kX4_follows_1 l hfl dC dI cI cZ cJ cD a0 _) q857 okX4_follows hP hD hK hE hS hA [] [0, 1, 2, 3] rfl rfl (by decide) (by decide) (by decide) (ci := 4) rfl 3 rfl rfl rfl hl.1 rfl (Nat.le_of_ble_eq_true rfl) ⟨rfl, rfl⟩ ⟨Nat.le_of_ble_eq_true rfl, Nat.le_of_ble_eq_true rfl⟩ ⟨Nat.le_of_ble_eq_true rfl, Nat.le_of_ble_eq_true rfl⟩ dX4_find_148 (fun H locs hP hD hS => ?_)
  have hP : va_P (dC, dI) vwCl [(a11, .inl (cZ, 62500, .inl (upd (upd (fun _ => 0) 0 0) 1 1))), (a10, .inl (cI, 250, .inl (upd (upd (fun _ => 0) 0 0) 1 1))), (a9, .inl (cI, 250, .inl (upd (upd (fun _ => 0) 0 0) 1 1))), (a0, .inr (4, [.int 0, .int 0, .ref a1, .ref a2, .ref a3, .ref a4, .int 0, .ref a5, .ref a6, .ref a7, .ref a8, .int 0, .int 1, .int 2, .int 1, .ref a9, .ref a10, .ref a11, .ref a12, .ref a13]))] H := hP
  have hD : va_D A [(a11, .inl (cZ, 62500, .inl (upd (upd (fun _ => 0) 0 0) 1 1))), (a10, .inl (cI, 250, .inl (upd (upd (fun _ => 0) 0 0) 1 1))), (a9, .inl (cI, 250, .inl (upd (upd (fun _ => 0) 0 0) 1 1))), (a0, .inr (4, [.int 0, .int 0, .ref a1, .ref a2, .ref a3, .ref a4, .int 0, .ref a5, .ref a6, .ref a7, .ref a8, .int 0, .int 1, .int 2, .int 1, .ref a9, .ref a10, .ref a11, .ref a12, .ref a13]))] := hD
  refine W.eq (g2 := F0 m 151 ls [.int 0, .int 250, .ref a11]) rfl ?_
  refine xa_zast (k := 250) (z := 0) (w1 := [(a11, .inl (cZ, 62500, .inl (upd (upd (upd (fun _ => 0) 0 0) 1 1) 250 0))), (a10, .inl (cI, 250, .inl (upd (upd (fun _ => 0) 0 0) 1 1))), (a9, .inl (cI, 250, .inl (upd (upd (fun _ => 0) 0 0) 1 1))), (a0, .inr (4, [.int 0, .int 0, .ref a1, .ref a2, .ref a3, .ref a4, .int 0, .ref a5, .ref a6, .ref a7, .ref a8, .int 0, .int 1, .int 2, .int 1, .ref a9, .ref a10, .ref a11, .ref a12, .ref a13]))]) hx hb hK hP hD hS 0 1 rfl rfl (by decide) (by decide +kernel) (Nat.le_of_ble_eq_true rfl) rfl rfl dX4_find_151 (fun H locs hP hD hS => ?_)
  refine lv_iinc (v := 1) (lv' := [(3, .int 1), (2, .int 1), (1, .int 1), (0, .ref a0)]) hx hb dX4_find_152 hl (k := 0) rfl (by decide +kernel) (by decide) rfl (fun ls hl => ?_)
  refine lv_goto (tgt := 116) hx hb dX4_find_155 (by decide) ?_
  refine lv_iload_n hx hb dX4_find_116 rfl (lv_at hl 0 rfl) ?_
  refine lv_aload_n hx hb dX4_find_117 rfl (lv_at hl 3 rfl) ?_
  refine va_get (D := (dC, dI)) (ci := 4) (v := .int 2) (C := RX4) (T := TX4) (N := 20) hx hb hts inX4 hown hK hP 3 rfl rfl 13 (by decide) (hts _ q700) (fun _ h9 => h9) rfl dX4_find_118 ?_
  refine lv_icmp_ge (tgt := 158) hx hb dX4_find_121 (by decide) (fun h9 => absurd h9 (by decide)) (fun _ => ?_)
  refine lv_aload_n hx hb dX4_find_124 rfl (lv_at hl 3 rfl) ?_
  refine va_get (D := (dC, dI)) (ci := 4) (v := .ref a11) (C := RX4) (T := TX4) (N := 20) hx hb hts inX4 hown hK hP 3 rfl rfl 17 (by decide) (hts _ q704) (fun _ h9 => h9) rfl dX4_find_125 ?_
  refine lv_sipush (v := 250) hx hb dX4_find_128 (by decide) ?_
  refine lv_iload_n hx hb dX4_find_131 rfl (lv_at hl 1 rfl) ?_
  refine lv_imul hx hb dX4_find_132 ?_
  refine tI (v := 250) (by decide +kernel) ?_
  refine lv_iload_n hx hb dX4_find_133 rfl (lv_at hl 0 rfl) ?_
  refine lv_iadd hx hb dX4_find_134 ?_
  refine tI (v := 251) (by decide +kernel) ?_
  refine lv_aload_n hx hb dX4_find_135 rfl (lv_at hl 3 rfl) ?_
  refine lv_aload_n hx hb dX4_find_136 rfl (lv_at hl 3 rfl) ?_
  refine va_get (D := (dC, dI)) (ci := 4) (v := .ref a9) (C := RX4) (T := TX4) (N := 20) hx hb hts inX4 hown hK hP 3 rfl rfl 15 (by decide) (hts _ q702) (fun _ h9 => h9) rfl dX4_find_137 ?_
  refine lv_iload_n hx hb dX4_find_140 rfl (lv_at hl 1 rfl) ?_
  refine xa_iald (k := 1) (v := 1) hx hb hK hP 2 0 rfl rfl (by decide) (by decide +kernel) (Nat.le_of_ble_eq_true rfl) rfl dX4_find_141 ?_
  refine lv_aload_n hx hb dX4_find_142 rfl (lv_at hl 3 rfl) ?_
  refine va_get (D := (dC, dI)) (ci := 4) (v := .ref a9) (C := RX4) (T := TX4) (N := 20) hx hb hts inX4 hown hK hP 3 rfl rfl 15 (by decide) (hts _ q702) (fun _ h9 => h9) rfl dX4_find_143 ?_
  refine lv_iload_n hx hb dX4_find_146 rfl (lv_at hl 0 rfl) ?_
  refine xa_iald (k := 1) (v := 1) hx hb hK hP 2 0 rfl rfl (by decide) (by decide +kernel) (Nat.le_of_ble_eq_true rfl) rfl dX4_find_147 ?_
  refine xc_V (b := a0) (wc := []) (As := [.int 1, .int 1]) (rest := [.int 251, .ref a11]) (wr := [(a11, .inl (cZ, 62500, .inl (upd (upd (upd (fun _ => 0) 0 0) 1 1) 250 0))), (a10, .inl (cI, 250, .inl (upd (upd (fun _ => 0) 0 0) 1 1))), (a9, .inl (cI, 250, .inl (upd (upd (fun _ => 0) 0 0) 1 1))), (a0, .inr (4, [.int 0, .int 0, .ref a1, .ref a2, .ref a3, .ref a4, .int 0, .ref a5, .ref a6, .ref a7, .ref a8, .int 0, .int 1, .int 2, .int 1, .ref a9, .ref a10, .ref a11, .ref a12, .ref a13]))]) ⟨hx, hb, hml, hown, hts⟩ (kX4_follows_4 l hfl dC dI cI cZ cJ cD a0 _) q857 okX4_follows hP hD hK hE hS hA [] [0, 1, 2, 3] rfl rfl (by decide) (by decide) (by decide) (ci := 4) rfl 3 rfl rfl rfl hl.1 rfl (Nat.le_of_ble_eq_true rfl) ⟨rfl, rfl⟩ ⟨Nat.le_of_ble_eq_true rfl, Nat.le_of_ble_eq_true rfl⟩ ⟨Nat.le_of_ble_eq_true rfl, Nat.le_of_ble_eq_true rfl⟩ dX4_find_148 (fun H locs hP hD hS => ?_)
  have hP : va_P (dC, dI) vwCl [(a11, .inl (cZ, 62500, .inl (upd (upd (upd (fun _ => 0) 0 0) 1 1) 250 0))), (a10, .inl (cI, 250, .inl (upd (upd (fun _ => 0) 0 0) 1 1))), (a9, .inl (cI, 250, .inl (upd (upd (fun _ => 0) 0 0) 1 1))), (a0, .inr (4, [.int 0, .int 0, .ref a1, .ref a2, .ref a3, .ref a4, .int 0, .ref a5, .ref a6, .ref a7, .ref a8, .int 0, .int 1, .int 2, .int 1, .ref a9, .ref a10, .ref a11, .ref a12, .ref a13]))] H := hP
  have hD : va_D A [(a11, .inl (cZ, 62500, .inl (upd (upd (upd (fun _ => 0) 0 0) 1 1) 250 0))), (a10, .inl (cI, 250, .inl (upd (upd (fun _ => 0) 0 0) 1 1))), (a9, .inl (cI, 250, .inl (upd (upd (fun _ => 0) 0 0) 1 1))), (a0, .inr (4, [.int 0, .int 0, .ref a1, .ref a2, .ref a3, .ref a4, .int 0, .ref a5, .ref a6, .ref a7, .ref a8, .int 0, .int 1, .int 2, .int 1, .ref a9, .ref a10, .ref a11, .ref a12, .ref a13]))] := hD
  refine W.eq (g2 := F0 m 151 ls [.int 0, .int 251, .ref a11]) rfl ?_
  refine xa_zast (k := 251) (z := 0) (w1 := [(a11, .inl (cZ, 62500, .inl (upd (upd (upd (upd (fun _ => 0) 0 0) 1 1) 250 0) 251 0))), (a10, .inl (cI, 250, .inl (upd (upd (fun _ => 0) 0 0) 1 1))), (a9, .inl (cI, 250, .inl (upd (upd (fun _ => 0) 0 0) 1 1))), (a0, .inr (4, [.int 0, .int 0, .ref a1, .ref a2, .ref a3, .ref a4, .int 0, .ref a5, .ref a6, .ref a7, .ref a8, .int 0, .int 1, .int 2, .int 1, .ref a9, .ref a10, .ref a11, .ref a12, .ref a13]))]) hx hb hK hP hD hS 0 1 rfl rfl (by decide) (by decide +kernel) (Nat.le_of_ble_eq_true rfl) rfl rfl dX4_find_151 (fun H locs hP hD hS => ?_)
  refine lv_iinc (v := 2) (lv' := [(3, .int 2), (2, .int 1), (1, .int 1), (0, .ref a0)]) hx hb dX4_find_152 hl (k := 0) rfl (by decide +kernel) (by decide) rfl (fun ls hl => ?_)
  refine lv_goto (tgt := 116) hx hb dX4_find_155 (by decide) ?_
  refine lv_iload_n hx hb dX4_find_116 rfl (lv_at hl 0 rfl) ?_
  refine lv_aload_n hx hb dX4_find_117 rfl (lv_at hl 3 rfl) ?_
  refine va_get (D := (dC, dI)) (ci := 4) (v := .int 2) (C := RX4) (T := TX4) (N := 20) hx hb hts inX4 hown hK hP 3 rfl rfl 13 (by decide) (hts _ q700) (fun _ h9 => h9) rfl dX4_find_118 ?_
  refine lv_icmp_ge (tgt := 158) hx hb dX4_find_121 (by decide) (fun _ => ?_) (fun h9 => absurd (by decide) h9)
  refine lv_iinc (v := 2) (lv' := [(2, .int 2), (3, .int 2), (1, .int 1), (0, .ref a0)]) hx hb dX4_find_158 hl (k := 1) rfl (by decide +kernel) (by decide) rfl (fun ls hl => ?_)
  refine lv_goto (tgt := 106) hx hb dX4_find_161 (by decide) ?_
  refine lv_iload_n hx hb dX4_find_106 rfl (lv_at hl 0 rfl) ?_
  refine lv_aload_n hx hb dX4_find_107 rfl (lv_at hl 3 rfl) ?_
  refine va_get (D := (dC, dI)) (ci := 4) (v := .int 2) (C := RX4) (T := TX4) (N := 20) hx hb hts inX4 hown hK hP 3 rfl rfl 13 (by decide) (hts _ q700) (fun _ h9 => h9) rfl dX4_find_108 ?_
  refine lv_icmp_ge (tgt := 164) hx hb dX4_find_111 (by decide) (fun _ => ?_) (fun h9 => absurd (by decide) h9)
  refine lv_aload_n hx hb dX4_find_164 rfl (lv_at hl 3 rfl) ?_
  refine lv_iconst (v := 1) hx hb dX4_find_165 (by decide) ?_
  refine va_put (D := (dC, dI)) (ci := 4) (v := .int 1) (ty := .boolean) (C := RX4) (T := TX4) (N := 20) hx hb hts inX4 tyX4 tyX4_ok nmX4 hown hK hP hD hS 3 rfl rfl 11 (by decide) (hts _ q698) (fun _ h9 => h9) rfl (by decide +kernel) rfl rfl (Nat.le_of_ble_eq_true rfl) dX4_find_166 (fun H locs hP hD hS => ?_)
  have hP : va_P (dC, dI) vwCl [(a11, .inl (cZ, 62500, .inl (upd (upd (upd (upd (fun _ => 0) 0 0) 1 1) 250 0) 251 0))), (a10, .inl (cI, 250, .inl (upd (upd (fun _ => 0) 0 0) 1 1))), (a9, .inl (cI, 250, .inl (upd (upd (fun _ => 0) 0 0) 1 1))), (a0, .inr (4, [.int 0, .int 0, .ref a1, .ref a2, .ref a3, .ref a4, .int 0, .ref a5, .ref a6, .ref a7, .ref a8, .int 1, .int 1, .int 2, .int 1, .ref a9, .ref a10, .ref a11, .ref a12, .ref a13]))] H := hP
  have hD : va_D A [(a11, .inl (cZ, 62500, .inl (upd (upd (upd (upd (fun _ => 0) 0 0) 1 1) 250 0) 251 0))), (a10, .inl (cI, 250, .inl (upd (upd (fun _ => 0) 0 0) 1 1))), (a9, .inl (cI, 250, .inl (upd (upd (fun _ => 0) 0 0) 1 1))), (a0, .inr (4, [.int 0, .int 0, .ref a1, .ref a2, .ref a3, .ref a4, .int 0, .ref a5, .ref a6, .ref a7, .ref a8, .int 1, .int 1, .int 2, .int 1, .ref a9, .ref a10, .ref a11, .ref a12, .ref a13]))] := hD
  exact xr_v hx hb hr hlocks hP hD hS [3, 2, 1, 0] rfl (by decide) (Nat.le_of_ble_eq_true rfl) (Nat.le_of_ble_eq_true rfl) dX4_find_169
