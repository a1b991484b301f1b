set_option maxHeartbeats 4000000 in
set_option maxRecDepth 100000 in
theorem kJ7_fill_53178_0 (l : Launch) (hfl : l.stackTraces = false) (dC : Nat → ClassId) (dI : Nat → Nat → Nat) (cI cZ cJ cD : ClassId) (a0 : Nat) (sz : Nat) : Met l yJ7_fill_53178 (ws_ yJ7_fill_53178 cJ7_fill_53178 4 none) (rm_ 1 0 0) (PC (dC, dI) (tyL cI cZ cJ cD) [(a0, .inl (cI, 512, .inl (fun _ => 0)))] sz [.ref a0, .int 0]) (QR (dC, dI) [(a0, .inl (cI, 512, .inl (fun _ => 0)))] none (va_A [(a0, .inl (cI, 512, .inl (fun _ => 0)))] sz)) 0 0 (va_A [(a0, .inl (cI, 512, .inl (fun _ => 0)))] sz) := by
  refine xm_of (QQ := QR (dC, dI) [(a0, .inl (cI, 512, .inl (fun _ => 0)))] none) (by decide +kernel) (Nat.le_of_ble_eq_true rfl) ?_
  intro p e s m below meth c A ls hx hb hr hml hown hts hlocks hin hK hP hD hE hA hS hl
  have hl : lv_has ls 4 [(0, .ref a0), (1, .int 0)] := hl
  have z0 : ∀ k : Nat, upd (fun _ => 0) k 0 = fun _ => 0 := fun k => by funext j; unfold upd; split <;> rfl
  have key : ∀ (n i : Nat), i + n = 512 → ∀ (H : Heap) (locs : List Loc) (ls : Array Slot), va_P (dC, dI) vwCl [(a0, .inl (cI, 512, .inl (fun _ => 0)))] H → va_D A [(a0, .inl (cI, 512, .inl (fun _ => 0)))] → va_S A s.heap H locs → lv_has ls 4 [(2, .int (nI i)), (3, .int 512), (0, .ref a0), (1, .int 0)] → W p l e (rm_ 1 0 0) s m [.ref a0, .int 0].toArray below meth c H locs 0 0 (MQ below (QR (dC, dI) [(a0, .inl (cI, 512, .inl (fun _ => 0)))] none A) [.ref a0, .int 0].toArray s 0 0 A) (F0 m 5 ls []) := by
    intro n
    induction n with
    | zero =>
      intro i hi H locs ls hP hD hS hl
      have hi : i = 512 := by omega
      subst hi
      refine lv_iload_n hx hb dJ7_fill_53178_5 rfl (lv_at hl 0 rfl) ?_
      refine lv_iload_n hx hb dJ7_fill_53178_6 rfl (lv_at hl 1 rfl) ?_
      refine lv_icmp_ge (tgt := 20) hx hb dJ7_fill_53178_7 (by decide) (fun _ => ?_) (fun h9 => absurd (by decide) h9)
      exact xr_v hx hb hr hlocks hP hD hS [0] rfl (by decide) (Nat.le_of_ble_eq_true rfl) (Nat.le_of_ble_eq_true rfl) dJ7_fill_53178_20
    | succ n ih =>
      intro i hi H locs ls hP hD hS hl
      refine lv_iload_n hx hb dJ7_fill_53178_5 rfl (lv_at hl 0 rfl) ?_
      refine lv_iload_n hx hb dJ7_fill_53178_6 rfl (lv_at hl 1 rfl) ?_
      refine lv_icmp_ge (tgt := 20) hx hb dJ7_fill_53178_7 (by decide) (fun h9 => absurd h9 (nI_ge (a := i) (b := 512) (by omega) (by decide))) (fun _ => ?_)
      refine lv_aload_n hx hb dJ7_fill_53178_10 rfl (lv_at hl 2 rfl) ?_
      refine lv_iload_n hx hb dJ7_fill_53178_11 rfl (lv_at hl 0 rfl) ?_
      refine lv_iload_n hx hb dJ7_fill_53178_12 rfl (lv_at hl 3 rfl) ?_
      refine xa_iast (k := i) (w1 := [(a0, .inl (cI, 512, .inl (fun _ => 0)))]) hx hb hK hP hD hS 0 0 rfl rfl (nI_pos (by omega)) (nI_clamp (by omega)) (by omega) (by rw [z0]; rfl) dJ7_fill_53178_13 (fun H locs hP hD hS => ?_)
      refine lv_iinc (v := nI (i + 1)) (lv' := [(2, .int (nI (i + 1))), (3, .int 512), (0, .ref a0), (1, .int 0)]) hx hb dJ7_fill_53178_14 hl (k := 0) rfl (nI_1 i) (by decide) rfl (fun ls hl => ?_)
      refine lv_goto (tgt := 5) hx hb dJ7_fill_53178_17 (by decide) ?_
      exact ih (i + 1) (by omega) H locs ls hP hD hS hl
  refine lv_iconst (v := 0) hx hb dJ7_fill_53178_0 (by decide) ?_
  refine lv_istore_n (lv' := [(2, .int 0), (0, .ref a0), (1, .int 0)]) hx hb dJ7_fill_53178_1 rfl hl (by decide) rfl (fun ls hl => ?_)
  refine lv_aload_n hx hb dJ7_fill_53178_2 rfl (lv_at hl 1 rfl) ?_
  refine va_alen (v := 512) hx hb hK hP 0 0 rfl rfl (by decide +kernel) dJ7_fill_53178_3 ?_
  refine lv_istore_n (lv' := [(3, .int 512), (2, .int 0), (0, .ref a0), (1, .int 0)]) hx hb dJ7_fill_53178_4 rfl hl (by decide) rfl (fun ls hl => ?_)
  exact key 512 0 rfl s.heap [] ls hP hD hS (lv_sub hl [1, 0, 2, 3] rfl)
set_option maxHeartbeats 4000000 in
set_option maxRecDepth 100000 in
theorem kX0_clear_0 (l : Launch) (hfl : l.stackTraces = false) (dC : Nat → ClassId) (dI : Nat → Nat → Nat) (cI cZ cJ cD : ClassId) (a0 a1 a2 a3 a4 a5 a6 a7 a8 a9 : Nat) (sz : Nat) : Met l yX0_clear (ws_ yX0_clear cX0_clear 1 none) (rm_ 2 0 0) (PC (dC, dI) (tyL cI cZ cJ cD) [(a0, .inr (0, [.int 0, .int 0, .int 1, .ref a1, .ref a2, .ref a3, .ref a4, .ref a5, .ref a6, .int 0, .ref a7, .ref a8, .ref a9])), (a4, .inl (cI, 512, .inl (fun _ => 0)))] sz [.ref a0]) (QR (dC, dI) [(a0, .inr (0, [.int 0, .int 0, .int 1, .ref a1, .ref a2, .ref a3, .ref a4, .ref a5, .ref a6, .int 0, .ref a7, .ref a8, .ref a9])), (a4, .inl (cI, 512, .inl (fun _ => 0)))] none (va_A [(a0, .inr (0, [.int 0, .int 0, .int 1, .ref a1, .ref a2, .ref a3, .ref a4, .ref a5, .ref a6, .int 0, .ref a7, .ref a8, .ref a9])), (a4, .inl (cI, 512, .inl (fun _ => 0)))] sz)) 0 0 (va_A [(a0, .inr (0, [.int 0, .int 0, .int 1, .ref a1, .ref a2, .ref a3, .ref a4, .ref a5, .ref a6, .int 0, .ref a7, .ref a8, .ref a9])), (a4, .inl (cI, 512, .inl (fun _ => 0)))] sz) := by
  refine xm_of (QQ := QR (dC, dI) [(a0, .inr (0, [.int 0, .int 0, .int 1, .ref a1, .ref a2, .ref a3, .ref a4, .ref a5, .ref a6, .int 0, .ref a7, .ref a8, .ref a9])), (a4, .inl (cI, 512, .inl (fun _ => 0)))] none) (by decide +kernel) (Nat.le_of_ble_eq_true rfl) ?_
  intro p e s m below meth c A ls hx hb hr hml hown hts hlocks hin hK hP hD hE hA hS hl
  have hown : s.vm.findClass RX0 = some m.cls := hown
  have hl : lv_has ls 1 [(0, .ref a0)] := hl
  have hP : va_P (dC, dI) vwCl [(a0, .inr (0, [.int 0, .int 0, .int 1, .ref a1, .ref a2, .ref a3, .ref a4, .ref a5, .ref a6, .int 0, .ref a7, .ref a8, .ref a9])), (a4, .inl (cI, 512, .inl (fun _ => 0)))] s.heap := hP
  refine lv_aload_n hx hb dX0_clear_0 rfl (lv_at hl 0 rfl) ?_
  refine lv_iconst (v := 0) hx hb dX0_clear_1 (by decide) ?_
  refine va_put (D := (dC, dI)) (ci := 0) (v := .int 0) (ty := .int) (C := RX0) (T := TX0) (N := 13) hx hb hts inX0 tyX0 tyX0_ok nmX0 hown hK hP hD hS 0 rfl rfl 0 (by decide) (hts _ q90) (fun _ h9 => h9) rfl (by decide +kernel) rfl rfl (Nat.le_of_ble_eq_true rfl) dX0_clear_2 (fun H locs hP hD hS => ?_)
  have hP : va_P (dC, dI) vwCl [(a0, .inr (0, [.int 0, .int 0, .int 1, .ref a1, .ref a2, .ref a3, .ref a4, .ref a5, .ref a6, .int 0, .ref a7, .ref a8, .ref a9])), (a4, .inl (cI, 512, .inl (fun _ => 0)))] H := hP
  have hD : va_D A [(a0, .inr (0, [.int 0, .int 0, .int 1, .ref a1, .ref a2, .ref a3, .ref a4, .ref a5, .ref a6, .int 0, .ref a7, .ref a8, .ref a9])), (a4, .inl (cI, 512, .inl (fun _ => 0)))] := hD
  refine lv_aload_n hx hb dX0_clear_5 rfl (lv_at hl 0 rfl) ?_
  refine lv_iconst (v := 0) hx hb dX0_clear_6 (by decide) ?_
  refine va_put (D := (dC, dI)) (ci := 0) (v := .int 0) (ty := .int) (C := RX0) (T := TX0) (N := 13) hx hb hts inX0 tyX0 tyX0_ok nmX0 hown hK hP hD hS 0 rfl rfl 1 (by decide) (hts _ q93) (fun _ h9 => h9) rfl (by decide +kernel) rfl rfl (Nat.le_of_ble_eq_true rfl) dX0_clear_7 (fun H locs hP hD hS => ?_)
  have hP : va_P (dC, dI) vwCl [(a0, .inr (0, [.int 0, .int 0, .int 1, .ref a1, .ref a2, .ref a3, .ref a4, .ref a5, .ref a6, .int 0, .ref a7, .ref a8, .ref a9])), (a4, .inl (cI, 512, .inl (fun _ => 0)))] H := hP
  have hD : va_D A [(a0, .inr (0, [.int 0, .int 0, .int 1, .ref a1, .ref a2, .ref a3, .ref a4, .ref a5, .ref a6, .int 0, .ref a7, .ref a8, .ref a9])), (a4, .inl (cI, 512, .inl (fun _ => 0)))] := hD
  refine lv_aload_n hx hb dX0_clear_10 rfl (lv_at hl 0 rfl) ?_
  refine lv_iconst (v := 1) hx hb dX0_clear_11 (by decide) ?_
  refine va_put (D := (dC, dI)) (ci := 0) (v := .int 1) (ty := .boolean) (C := RX0) (T := TX0) (N := 13) hx hb hts inX0 tyX0 tyX0_ok nmX0 hown hK hP hD hS 0 rfl rfl 2 (by decide) (hts _ q96) (fun _ h9 => h9) rfl (by decide +kernel) rfl rfl (Nat.le_of_ble_eq_true rfl) dX0_clear_12 (fun H locs hP hD hS => ?_)
  have hP : va_P (dC, dI) vwCl [(a0, .inr (0, [.int 0, .int 0, .int 1, .ref a1, .ref a2, .ref a3, .ref a4, .ref a5, .ref a6, .int 0, .ref a7, .ref a8, .ref a9])), (a4, .inl (cI, 512, .inl (fun _ => 0)))] H := hP
  have hD : va_D A [(a0, .inr (0, [.int 0, .int 0, .int 1, .ref a1, .ref a2, .ref a3, .ref a4, .ref a5, .ref a6, .int 0, .ref a7, .ref a8, .ref a9])), (a4, .inl (cI, 512, .inl (fun _ => 0)))] := hD
  refine lv_aload_n hx hb dX0_clear_15 rfl (lv_at hl 0 rfl) ?_
  refine lv_iconst (v := 0) hx hb dX0_clear_16 (by decide) ?_
  refine va_put (D := (dC, dI)) (ci := 0) (v := .int 0) (ty := .int) (C := RX0) (T := TX0) (N := 13) hx hb hts inX0 tyX0 tyX0_ok nmX0 hown hK hP hD hS 0 rfl rfl 9 (by decide) (hts _ q112) (fun _ h9 => h9) rfl (by decide +kernel) rfl rfl (Nat.le_of_ble_eq_true rfl) dX0_clear_17 (fun H locs hP hD hS => ?_)
  have hP : va_P (dC, dI) vwCl [(a0, .inr (0, [.int 0, .int 0, .int 1, .ref a1, .ref a2, .ref a3, .ref a4, .ref a5, .ref a6, .int 0, .ref a7, .ref a8, .ref a9])), (a4, .inl (cI, 512, .inl (fun _ => 0)))] H := hP
  have hD : va_D A [(a0, .inr (0, [.int 0, .int 0, .int 1, .ref a1, .ref a2, .ref a3, .ref a4, .ref a5, .ref a6, .int 0, .ref a7, .ref a8, .ref a9])), (a4, .inl (cI, 512, .inl (fun _ => 0)))] := hD
  refine lv_aload_n hx hb dX0_clear_20 rfl (lv_at hl 0 rfl) ?_
  refine va_get (D := (dC, dI)) (ci := 0) (v := .ref a4) (C := RX0) (T := TX0) (N := 13) hx hb hts inX0 hown hK hP 0 rfl rfl 6 (by decide) (hts _ q107) (fun _ h9 => h9) rfl dX0_clear_21 ?_
  refine lv_iconst (v := 0) hx hb dX0_clear_24 (by decide) ?_
  refine xc_S (wc := [(a4, .inl (cI, 512, .inl (fun _ => 0)))]) (As := [.ref a4, .int 0]) (rest := []) (wr := [(a0, .inr (0, [.int 0, .int 0, .int 1, .ref a1, .ref a2, .ref a3, .ref a4, .ref a5, .ref a6, .int 0, .ref a7, .ref a8, .ref a9]))]) ⟨hx, hb, hml, hown, hts⟩ (kJ7_fill_53178_0 l hfl dC dI cI cZ cJ cD a4 _) q201 okJ7_fill_53178 hP hD hK hE hS hA [1] [0] rfl rfl (by decide) (by decide) (by decide) rfl hl.1 rfl (Nat.le_of_ble_eq_true rfl) ⟨rfl, rfl⟩ ⟨Nat.le_of_ble_eq_true rfl, Nat.le_of_ble_eq_true rfl⟩ ⟨Nat.le_of_ble_eq_true rfl, Nat.le_of_ble_eq_true rfl⟩ dX0_clear_25 (fun H locs hP hD hS => ?_)
  have hP : va_P (dC, dI) vwCl [(a0, .inr (0, [.int 0, .int 0, .int 1, .ref a1, .ref a2, .ref a3, .ref a4, .ref a5, .ref a6, .int 0, .ref a7, .ref a8, .ref a9])), (a4, .inl (cI, 512, .inl (fun _ => 0)))] H := hP
  have hD : va_D A [(a0, .inr (0, [.int 0, .int 0, .int 1, .ref a1, .ref a2, .ref a3, .ref a4, .ref a5, .ref a6, .int 0, .ref a7, .ref a8, .ref a9])), (a4, .inl (cI, 512, .inl (fun _ => 0)))] := hD
  refine W.eq (g2 := F0 m 28 ls []) rfl ?_
  exact xr_v hx hb hr hlocks hP hD hS [0, 1] rfl (by decide) (Nat.le_of_ble_eq_true rfl) (Nat.le_of_ble_eq_true rfl) dX0_clear_28
set_option maxHeartbeats 4000000 in
set_option maxRecDepth 100000 in
theorem kX2_setToFollowing_0 (l : Launch) (hfl : l.stackTraces = false) (dC : Nat → ClassId) (dI : Nat → Nat → Nat) (cI cZ cJ cD : ClassId) (a0 a1 a2 a3 a4 a5 a6 a7 a8 a9 a10 a11 a12 a13 a14 : Nat) (sz : Nat) : Met l yX2_setToFollowing (ws_ yX2_setToFollowing cX2_setToFollowing 3 none) (rm_ 1 0 0) (PC (dC, dI) (tyL cI cZ cJ cD) [(a1, .inr (1, [.int 0, .ref a2, .ref a3, .ref a4, .ref a5, .ref a6, .ref a7, .ref a8, .int 0, .ref a9, .ref a10, .ref a11, .ref a12])), (a0, .inr (2, [.ref a1, .ref a13, .ref a14, .int (-1)]))] sz [.ref a0, .int (-1)]) (QR (dC, dI) [(a1, .inr (1, [.int 0, .ref a2, .ref a3, .ref a4, .ref a5, .ref a6, .ref a7, .ref a8, .int 0, .ref a9, .ref a10, .ref a11, .ref a12])), (a0, .inr (2, [.ref a1, .ref a13, .ref a14, .int (-1)]))] none (va_A [(a1, .inr (1, [.int 0, .ref a2, .ref a3, .ref a4, .ref a5, .ref a6, .ref a7, .ref a8, .int 0, .ref a9, .ref a10, .ref a11, .ref a12])), (a0, .inr (2, [.ref a1, .ref a13, .ref a14, .int (-1)]))] sz)) 0 0 (va_A [(a1, .inr (1, [.int 0, .ref a2, .ref a3, .ref a4, .ref a5, .ref a6, .ref a7, .ref a8, .int 0, .ref a9, .ref a10, .ref a11, .ref a12])), (a0, .inr (2, [.ref a1, .ref a13, .ref a14, .int (-1)]))] sz) := by
  refine xm_of (QQ := QR (dC, dI) [(a1, .inr (1, [.int 0, .ref a2, .ref a3, .ref a4, .ref a5, .ref a6, .ref a7, .ref a8, .int 0, .ref a9, .ref a10, .ref a11, .ref a12])), (a0, .inr (2, [.ref a1, .ref a13, .ref a14, .int (-1)]))] none) (by decide +kernel) (Nat.le_of_ble_eq_true rfl) ?_
  intro p e s m below meth c A ls hx hb hr hml hown hts hlocks hin hK hP hD hE hA hS hl
  have hown : s.vm.findClass RX2 = some m.cls := hown
  have hl : lv_has ls 3 [(0, .ref a0), (1, .int (-1))] := hl
  have hP : va_P (dC, dI) vwCl [(a1, .inr (1, [.int 0, .ref a2, .ref a3, .ref a4, .ref a5, .ref a6, .ref a7, .ref a8, .int 0, .ref a9, .ref a10, .ref a11, .ref a12])), (a0, .inr (2, [.ref a1, .ref a13, .ref a14, .int (-1)]))] s.heap := hP
  refine lv_iconst (v := 0) hx hb dX2_setToFollowing_0 (by decide) ?_
  refine lv_istore_n (lv' := [(2, .int 0), (0, .ref a0), (1, .int (-1))]) hx hb dX2_setToFollowing_1 rfl hl (by decide) rfl (fun ls hl => ?_)
  refine lv_iload_n hx hb dX2_setToFollowing_2 rfl (lv_at hl 0 rfl) ?_
  refine lv_aload_n hx hb dX2_setToFollowing_3 rfl (lv_at hl 1 rfl) ?_
  refine va_get (D := (dC, dI)) (ci := 2) (v := .ref a1) (C := RX2) (T := TX2) (N := 4) hx hb hts inX2 hown hK hP 1 rfl rfl 0 (by decide) (hts _ q151) (fun _ h9 => h9) rfl dX2_setToFollowing_4 ?_
  refine va_get (D := (dC, dI)) (ci := 1) (v := .int 0) (C := RX1) (T := TX1) (N := 13) hx hb hts inX1 hown hK hP 0 rfl rfl 0 (by decide) (hts _ q32) (fun _ h9 => h9) rfl dX2_setToFollowing_7 ?_
  refine lv_icmp_ge (tgt := 116) hx hb dX2_setToFollowing_10 (by decide) (fun _ => ?_) (fun h9 => absurd (by decide) h9)
  exact xr_v hx hb hr hlocks hP hD hS [0, 1] rfl (by decide) (Nat.le_of_ble_eq_true rfl) (Nat.le_of_ble_eq_true rfl) dX2_setToFollowing_116
set_option maxHeartbeats 4000000 in
set_option maxRecDepth 100000 in
theorem kX2_codesLeft_0 (l : Launch) (hfl : l.stackTraces = false) (dC : Nat → ClassId) (dI : Nat → Nat → Nat) (cI cZ cJ cD : ClassId) (a0 a1 a2 a3 a4 a5 a6 a7 a8 a9 a10 a11 a12 a13 a14 : Nat) (sz : Nat) : Met l yX2_codesLeft (ws_ yX2_codesLeft cX2_codesLeft 3 (some .int)) (rm_ 1 0 0) (PC (dC, dI) (tyL cI cZ cJ cD) [(a1, .inr (1, [.int 0, .ref a2, .ref a3, .ref a4, .ref a5, .ref a6, .ref a7, .ref a8, .int 0, .ref a9, .ref a10, .ref a11, .ref a12])), (a0, .inr (2, [.ref a1, .ref a13, .ref a14, .int (-1)]))] sz [.ref a0]) (QR (dC, dI) [(a1, .inr (1, [.int 0, .ref a2, .ref a3, .ref a4, .ref a5, .ref a6, .ref a7, .ref a8, .int 0, .ref a9, .ref a10, .ref a11, .ref a12])), (a0, .inr (2, [.ref a1, .ref a13, .ref a14, .int (-1)]))] (some (.int 0)) (va_A [(a1, .inr (1, [.int 0, .ref a2, .ref a3, .ref a4, .ref a5, .ref a6, .ref a7, .ref a8, .int 0, .ref a9, .ref a10, .ref a11, .ref a12])), (a0, .inr (2, [.ref a1, .ref a13, .ref a14, .int (-1)]))] sz)) 0 0 (va_A [(a1, .inr (1, [.int 0, .ref a2, .ref a3, .ref a4, .ref a5, .ref a6, .ref a7, .ref a8, .int 0, .ref a9, .ref a10, .ref a11, .ref a12])), (a0, .inr (2, [.ref a1, .ref a13, .ref a14, .int (-1)]))] sz) := by
  refine xm_of (QQ := QR (dC, dI) [(a1, .inr (1, [.int 0, .ref a2, .ref a3, .ref a4, .ref a5, .ref a6, .ref a7, .ref a8, .int 0, .ref a9, .ref a10, .ref a11, .ref a12])), (a0, .inr (2, [.ref a1, .ref a13, .ref a14, .int (-1)]))] (some (.int 0))) (by decide +kernel) (Nat.le_of_ble_eq_true rfl) ?_
  intro p e s m below meth c A ls hx hb hr hml hown hts hlocks hin hK hP hD hE hA hS hl
  have hown : s.vm.findClass RX2 = some m.cls := hown
  have hl : lv_has ls 3 [(0, .ref a0)] := hl
  have hP : va_P (dC, dI) vwCl [(a1, .inr (1, [.int 0, .ref a2, .ref a3, .ref a4, .ref a5, .ref a6, .ref a7, .ref a8, .int 0, .ref a9, .ref a10, .ref a11, .ref a12])), (a0, .inr (2, [.ref a1, .ref a13, .ref a14, .int (-1)]))] s.heap := hP
  refine lv_iconst (v := 0) hx hb dX2_codesLeft_0 (by decide) ?_
  refine lv_istore_n (lv' := [(1, .int 0), (0, .ref a0)]) hx hb dX2_codesLeft_1 rfl hl (by decide) rfl (fun ls hl => ?_)
  refine lv_iconst (v := 0) hx hb dX2_codesLeft_2 (by decide) ?_
  refine lv_istore_n (lv' := [(2, .int 0), (1, .int 0), (0, .ref a0)]) hx hb dX2_codesLeft_3 rfl hl (by decide) rfl (fun ls hl => ?_)
  refine lv_iload_n hx hb dX2_codesLeft_4 rfl (lv_at hl 0 rfl) ?_
  refine lv_aload_n hx hb dX2_codesLeft_5 rfl (lv_at hl 2 rfl) ?_
  refine va_get (D := (dC, dI)) (ci := 2) (v := .ref a1) (C := RX2) (T := TX2) (N := 4) hx hb hts inX2 hown hK hP 1 rfl rfl 0 (by decide) (hts _ q151) (fun _ h9 => h9) rfl dX2_codesLeft_6 ?_
  refine va_get (D := (dC, dI)) (ci := 1) (v := .int 0) (C := RX1) (T := TX1) (N := 13) hx hb hts inX1 hown hK hP 0 rfl rfl 0 (by decide) (hts _ q32) (fun _ h9 => h9) rfl dX2_codesLeft_9 ?_
  refine lv_icmp_ge (tgt := 33) hx hb dX2_codesLeft_12 (by decide) (fun _ => ?_) (fun h9 => absurd (by decide) h9)
  refine lv_iload_n hx hb dX2_codesLeft_33 rfl (lv_at hl 1 rfl) ?_
  exact xr_i hx hb hr hlocks hP hD hS [0, 1] rfl (by decide) (Nat.le_of_ble_eq_true rfl) (Nat.le_of_ble_eq_true rfl) dX2_codesLeft_34
set_option maxHeartbeats 4000000 in
set_option maxRecDepth 100000 in
theorem kX2_narrowUntilStable_0 (l : Launch) (hfl : l.stackTraces = false) (dC : Nat → ClassId) (dI : Nat → Nat → Nat) (cI cZ cJ cD : ClassId) (a0 a1 a2 a3 a4 a5 a6 a7 a8 a9 a10 a11 a12 a13 a14 : Nat) (sz : Nat) : Met l yX2_narrowUntilStable (ws_ yX2_narrowUntilStable cX2_narrowUntilStable 4 (some .boolean)) (rm_ 2 0 0) (PC (dC, dI) (tyL cI cZ cJ cD) [(a1, .inr (1, [.int 0, .ref a2, .ref a3, .ref a4, .ref a5, .ref a6, .ref a7, .ref a8, .int 0, .ref a9, .ref a10, .ref a11, .ref a12])), (a0, .inr (2, [.ref a1, .ref a13, .ref a14, .int (-1)]))] sz [.ref a0]) (QR (dC, dI) [(a1, .inr (1, [.int 0, .ref a2, .ref a3, .ref a4, .ref a5, .ref a6, .ref a7, .ref a8, .int 0, .ref a9, .ref a10, .ref a11, .ref a12])), (a0, .inr (2, [.ref a1, .ref a13, .ref a14, .int (-1)]))] (some (.int 1)) (va_A [(a1, .inr (1, [.int 0, .ref a2, .ref a3, .ref a4, .ref a5, .ref a6, .ref a7, .ref a8, .int 0, .ref a9, .ref a10, .ref a11, .ref a12])), (a0, .inr (2, [.ref a1, .ref a13, .ref a14, .int (-1)]))] sz)) 0 0 (va_A [(a1, .inr (1, [.int 0, .ref a2, .ref a3, .ref a4, .ref a5, .ref a6, .ref a7, .ref a8, .int 0, .ref a9, .ref a10, .ref a11, .ref a12])), (a0, .inr (2, [.ref a1, .ref a13, .ref a14, .int (-1)]))] sz) := by
  refine xm_of (QQ := QR (dC, dI) [(a1, .inr (1, [.int 0, .ref a2, .ref a3, .ref a4, .ref a5, .ref a6, .ref a7, .ref a8, .int 0, .ref a9, .ref a10, .ref a11, .ref a12])), (a0, .inr (2, [.ref a1, .ref a13, .ref a14, .int (-1)]))] (some (.int 1))) (by decide +kernel) (Nat.le_of_ble_eq_true rfl) ?_
  intro p e s m below meth c A ls hx hb hr hml hown hts hlocks hin hK hP hD hE hA hS hl
  have hown : s.vm.findClass RX2 = some m.cls := hown
  have hl : lv_has ls 4 [(0, .ref a0)] := hl
  have hP : va_P (dC, dI) vwCl [(a1, .inr (1, [.int 0, .ref a2, .ref a3, .ref a4, .ref a5, .ref a6, .ref a7, .ref a8, .int 0, .ref a9, .ref a10, .ref a11, .ref a12])), (a0, .inr (2, [.ref a1, .ref a13, .ref a14, .int (-1)]))] s.heap := hP
  refine lv_iconst (v := 0) hx hb dX2_narrowUntilStable_0 (by decide) ?_
  refine lv_istore_n (lv' := [(1, .int 0), (0, .ref a0)]) hx hb dX2_narrowUntilStable_1 rfl hl (by decide) rfl (fun ls hl => ?_)
  refine lv_iload_n hx hb dX2_narrowUntilStable_2 rfl (lv_at hl 0 rfl) ?_
  refine lv_bipush (v := 84) hx hb dX2_narrowUntilStable_3 (by decide) ?_
  refine lv_icmp_ge (tgt := 59) hx hb dX2_narrowUntilStable_5 (by decide) (fun h9 => absurd h9 (by decide)) (fun _ => ?_)
  refine lv_aload_n hx hb dX2_narrowUntilStable_8 rfl (lv_at hl 1 rfl) ?_
  refine xc_V (b := a0) (wc := [(a1, .inr (1, [.int 0, .ref a2, .ref a3, .ref a4, .ref a5, .ref a6, .ref a7, .ref a8, .int 0, .ref a9, .ref a10, .ref a11, .ref a12])), (a0, .inr (2, [.ref a1, .ref a13, .ref a14, .int (-1)]))]) (As := []) (rest := []) (wr := []) ⟨hx, hb, hml, hown, hts⟩ (kX2_codesLeft_0 l hfl dC dI cI cZ cJ cD a0 a1 a2 a3 a4 a5 a6 a7 a8 a9 a10 a11 a12 a13 a14 _) q242 okX2_codesLeft hP hD hK hE hS hA [0, 1] [] rfl rfl (by decide) (by decide) (by decide) (ci := 2) rfl 1 rfl rfl rfl hl.1 rfl (Nat.le_of_ble_eq_true rfl) ⟨rfl, rfl⟩ ⟨Nat.le_of_ble_eq_true rfl, Nat.le_of_ble_eq_true rfl⟩ ⟨Nat.le_of_ble_eq_true rfl, Nat.le_of_ble_eq_true rfl⟩ dX2_narrowUntilStable_9 (fun H locs hP hD hS => ?_)
  have hP : va_P (dC, dI) vwCl [(a1, .inr (1, [.int 0, .ref a2, .ref a3, .ref a4, .ref a5, .ref a6, .ref a7, .ref a8, .int 0, .ref a9, .ref a10, .ref a11, .ref a12])), (a0, .inr (2, [.ref a1, .ref a13, .ref a14, .int (-1)]))] H := hP
  have hD : va_D A [(a1, .inr (1, [.int 0, .ref a2, .ref a3, .ref a4, .ref a5, .ref a6, .ref a7, .ref a8, .int 0, .ref a9, .ref a10, .ref a11, .ref a12])), (a0, .inr (2, [.ref a1, .ref a13, .ref a14, .int (-1)]))] := hD
  refine W.eq (g2 := F0 m 12 ls [.int 0]) rfl ?_
  refine lv_istore_n (lv' := [(2, .int 0), (1, .int 0), (0, .ref a0)]) hx hb dX2_narrowUntilStable_12 rfl hl (by decide) rfl (fun ls hl => ?_)
  refine lv_iconst (v := 0) hx hb dX2_narrowUntilStable_13 (by decide) ?_
  refine lv_istore_n (lv' := [(3, .int 0), (2, .int 0), (1, .int 0), (0, .ref a0)]) hx hb dX2_narrowUntilStable_14 rfl hl (by decide) rfl (fun ls hl => ?_)
  refine lv_iload_n hx hb dX2_narrowUntilStable_15 rfl (lv_at hl 0 rfl) ?_
  refine lv_aload_n hx hb dX2_narrowUntilStable_16 rfl (lv_at hl 3 rfl) ?_
  refine va_get (D := (dC, dI)) (ci := 2) (v := .ref a1) (C := RX2) (T := TX2) (N := 4) hx hb hts inX2 hown hK hP 1 rfl rfl 0 (by decide) (hts _ q151) (fun _ h9 => h9) rfl dX2_narrowUntilStable_17 ?_
  refine va_get (D := (dC, dI)) (ci := 1) (v := .int 0) (C := RX1) (T := TX1) (N := 13) hx hb hts inX1 hown hK hP 0 rfl rfl 8 (by decide) (hts _ q46) (fun _ h9 => h9) rfl dX2_narrowUntilStable_20 ?_
  refine lv_icmp_ge (tgt := 43) hx hb dX2_narrowUntilStable_23 (by decide) (fun _ => ?_) (fun h9 => absurd (by decide) h9)
  refine lv_aload_n hx hb dX2_narrowUntilStable_43 rfl (lv_at hl 3 rfl) ?_
  refine xc_V (b := a0) (wc := [(a1, .inr (1, [.int 0, .ref a2, .ref a3, .ref a4, .ref a5, .ref a6, .ref a7, .ref a8, .int 0, .ref a9, .ref a10, .ref a11, .ref a12])), (a0, .inr (2, [.ref a1, .ref a13, .ref a14, .int (-1)]))]) (As := []) (rest := []) (wr := []) ⟨hx, hb, hml, hown, hts⟩ (kX2_codesLeft_0 l hfl dC dI cI cZ cJ cD a0 a1 a2 a3 a4 a5 a6 a7 a8 a9 a10 a11 a12 a13 a14 _) q242 okX2_codesLeft hP hD hK hE hS hA [0, 1] [] rfl rfl (by decide) (by decide) (by decide) (ci := 2) rfl 1 rfl rfl rfl hl.1 rfl (Nat.le_of_ble_eq_true rfl) ⟨rfl, rfl⟩ ⟨Nat.le_of_ble_eq_true rfl, Nat.le_of_ble_eq_true rfl⟩ ⟨Nat.le_of_ble_eq_true rfl, Nat.le_of_ble_eq_true rfl⟩ dX2_narrowUntilStable_44 (fun H locs hP hD hS => ?_)
  have hP : va_P (dC, dI) vwCl [(a1, .inr (1, [.int 0, .ref a2, .ref a3, .ref a4, .ref a5, .ref a6, .ref a7, .ref a8, .int 0, .ref a9, .ref a10, .ref a11, .ref a12])), (a0, .inr (2, [.ref a1, .ref a13, .ref a14, .int (-1)]))] H := hP
  have hD : va_D A [(a1, .inr (1, [.int 0, .ref a2, .ref a3, .ref a4, .ref a5, .ref a6, .ref a7, .ref a8, .int 0, .ref a9, .ref a10, .ref a11, .ref a12])), (a0, .inr (2, [.ref a1, .ref a13, .ref a14, .int (-1)]))] := hD
  refine W.eq (g2 := F0 m 47 ls [.int 0]) rfl ?_
  refine lv_iload_n hx hb dX2_narrowUntilStable_47 rfl (lv_at hl 1 rfl) ?_
  refine lv_icmp_ne (tgt := 53) hx hb dX2_narrowUntilStable_48 (by decide) (fun h9 => absurd (by decide) h9) (fun _ => ?_)
  refine lv_iconst (v := 1) hx hb dX2_narrowUntilStable_51 (by decide) ?_
  exact xr_z hx hb hr hlocks hP hD hS [0, 1] rfl (by decide) rfl (Nat.le_of_ble_eq_true rfl) (Nat.le_of_ble_eq_true rfl) dX2_narrowUntilStable_52
set_option maxHeartbeats 4000000 in
set_option maxRecDepth 100000 in
theorem kX0_append_0 (l : Launch) (hfl : l.stackTraces = false) (dC : Nat → ClassId) (dI : Nat → Nat → Nat) (cI cZ cJ cD : ClassId) (a0 a1 a2 a3 a4 a5 a6 a7 a8 a9 : Nat) (sz : Nat) : Met l yX0_append (ws_ yX0_append cX0_append 5 none) (rm_ 1 0 0) (PC (dC, dI) (tyL cI cZ cJ cD) [(a1, .inl (cI, 250, .inl (fun _ => 0))), (a2, .inl (cZ, 250, .inl (fun _ => 0))), (a3, .inl (cI, 250, .inl (fun _ => 0))), (a0, .inr (0, [.int 0, .int 0, .int 1, .ref a1, .ref a2, .ref a3, .ref a4, .ref a5, .ref a6, .int 0, .ref a7, .ref a8, .ref a9])), (a4, .inl (cI, 512, .inl (fun _ => 0)))] sz [.ref a0, .int 0, .int 1, .int (-1), .int 316]) (QR (dC, dI) [(a1, .inl (cI, 250, .inl (upd (fun _ => 0) 0 0))), (a2, .inl (cZ, 250, .inl (upd (fun _ => 0) 0 1))), (a3, .inl (cI, 250, .inl (upd (fun _ => 0) 0 0))), (a0, .inr (0, [.int 1, .int 0, .int 1, .ref a1, .ref a2, .ref a3, .ref a4, .ref a5, .ref a6, .int 0, .ref a7, .ref a8, .ref a9])), (a4, .inl (cI, 512, .inl (upd (fun _ => 0) 316 1)))] none (va_A [(a1, .inl (cI, 250, .inl (fun _ => 0))), (a2, .inl (cZ, 250, .inl (fun _ => 0))), (a3, .inl (cI, 250, .inl (fun _ => 0))), (a0, .inr (0, [.int 0, .int 0, .int 1, .ref a1, .ref a2, .ref a3, .ref a4, .ref a5, .ref a6, .int 0, .ref a7, .ref a8, .ref a9])), (a4, .inl (cI, 512, .inl (fun _ => 0)))] sz)) 0 0 (va_A [(a1, .inl (cI, 250, .inl (fun _ => 0))), (a2, .inl (cZ, 250, .inl (fun _ => 0))), (a3, .inl (cI, 250, .inl (fun _ => 0))), (a0, .inr (0, [.int 0, .int 0, .int 1, .ref a1, .ref a2, .ref a3, .ref a4, .ref a5, .ref a6, .int 0, .ref a7, .ref a8, .ref a9])), (a4, .inl (cI, 512, .inl (fun _ => 0)))] sz) := by
  refine xm_of (QQ := QR (dC, dI) [(a1, .inl (cI, 250, .inl (upd (fun _ => 0) 0 0))), (a2, .inl (cZ, 250, .inl (upd (fun _ => 0) 0 1))), (a3, .inl (cI, 250, .inl (upd (fun _ => 0) 0 0))), (a0, .inr (0, [.int 1, .int 0, .int 1, .ref a1, .ref a2, .ref a3, .ref a4, .ref a5, .ref a6, .int 0, .ref a7, .ref a8, .ref a9])), (a4, .inl (cI, 512, .inl (upd (fun _ => 0) 316 1)))] none) (by decide +kernel) (Nat.le_of_ble_eq_true rfl) ?_
  intro p e s m below meth c A ls hx hb hr hml hown hts hlocks hin hK hP hD hE hA hS hl
  have hown : s.vm.findClass RX0 = some m.cls := hown
  have hl : lv_has ls 5 [(0, .ref a0), (1, .int 0), (2, .int 1), (3, .int (-1)), (4, .int 316)] := hl
  have hP : va_P (dC, dI) vwCl [(a1, .inl (cI, 250, .inl (fun _ => 0))), (a2, .inl (cZ, 250, .inl (fun _ => 0))), (a3, .inl (cI, 250, .inl (fun _ => 0))), (a0, .inr (0, [.int 0, .int 0, .int 1, .ref a1, .ref a2, .ref a3, .ref a4, .ref a5, .ref a6, .int 0, .ref a7, .ref a8, .ref a9])), (a4, .inl (cI, 512, .inl (fun _ => 0)))] s.heap := hP
  refine lv_aload_n hx hb dX0_append_0 rfl (lv_at hl 0 rfl) ?_
  refine va_get (D := (dC, dI)) (ci := 0) (v := .int 0) (C := RX0) (T := TX0) (N := 13) hx hb hts inX0 hown hK hP 3 rfl rfl 0 (by decide) (hts _ q90) (fun _ h9 => h9) rfl dX0_append_1 ?_
  refine lv_sipush (v := 250) hx hb dX0_append_4 (by decide) ?_
  refine lv_icmp_lt (tgt := 16) hx hb dX0_append_7 (by decide) (fun _ => ?_) (fun h9 => absurd (by decide) h9)
  refine lv_aload_n hx hb dX0_append_16 rfl (lv_at hl 0 rfl) ?_
  refine va_get (D := (dC, dI)) (ci := 0) (v := .ref a1) (C := RX0) (T := TX0) (N := 13) hx hb hts inX0 hown hK hP 3 rfl rfl 3 (by decide) (hts _ q99) (fun _ h9 => h9) rfl dX0_append_17 ?_
  refine lv_aload_n hx hb dX0_append_20 rfl (lv_at hl 0 rfl) ?_
  refine va_get (D := (dC, dI)) (ci := 0) (v := .int 0) (C := RX0) (T := TX0) (N := 13) hx hb hts inX0 hown hK hP 3 rfl rfl 0 (by decide) (hts _ q90) (fun _ h9 => h9) rfl dX0_append_21 ?_
  refine lv_iload_n hx hb dX0_append_24 rfl (lv_at hl 1 rfl) ?_
  refine xa_iast (k := 0) (w1 := [(a1, .inl (cI, 250, .inl (upd (fun _ => 0) 0 0))), (a2, .inl (cZ, 250, .inl (fun _ => 0))), (a3, .inl (cI, 250, .inl (fun _ => 0))), (a0, .inr (0, [.int 0, .int 0, .int 1, .ref a1, .ref a2, .ref a3, .ref a4, .ref a5, .ref a6, .int 0, .ref a7, .ref a8, .ref a9])), (a4, .inl (cI, 512, .inl (fun _ => 0)))]) hx hb hK hP hD hS 0 0 rfl rfl (by decide) (by decide +kernel) (Nat.le_of_ble_eq_true rfl) rfl dX0_append_25 (fun H locs hP hD hS => ?_)
  refine lv_aload_n hx hb dX0_append_26 rfl (lv_at hl 0 rfl) ?_
  refine va_get (D := (dC, dI)) (ci := 0) (v := .ref a2) (C := RX0) (T := TX0) (N := 13) hx hb hts inX0 hown hK hP 3 rfl rfl 4 (by decide) (hts _ q102) (fun _ h9 => h9) rfl dX0_append_27 ?_
  refine lv_aload_n hx hb dX0_append_30 rfl (lv_at hl 0 rfl) ?_
  refine va_get (D := (dC, dI)) (ci := 0) (v := .int 0) (C := RX0) (T := TX0) (N := 13) hx hb hts inX0 hown hK hP 3 rfl rfl 0 (by decide) (hts _ q90) (fun _ h9 => h9) rfl dX0_append_31 ?_
  refine lv_iload_n hx hb dX0_append_34 rfl (lv_at hl 2 rfl) ?_
  refine xa_zast (k := 0) (z := 1) (w1 := [(a1, .inl (cI, 250, .inl (upd (fun _ => 0) 0 0))), (a2, .inl (cZ, 250, .inl (upd (fun _ => 0) 0 1))), (a3, .inl (cI, 250, .inl (fun _ => 0))), (a0, .inr (0, [.int 0, .int 0, .int 1, .ref a1, .ref a2, .ref a3, .ref a4, .ref a5, .ref a6, .int 0, .ref a7, .ref a8, .ref a9])), (a4, .inl (cI, 512, .inl (fun _ => 0)))]) hx hb hK hP hD hS 1 1 rfl rfl (by decide) (by decide +kernel) (Nat.le_of_ble_eq_true rfl) rfl rfl dX0_append_35 (fun H locs hP hD hS => ?_)
  refine lv_aload_n hx hb dX0_append_36 rfl (lv_at hl 0 rfl) ?_
  refine va_get (D := (dC, dI)) (ci := 0) (v := .ref a3) (C := RX0) (T := TX0) (N := 13) hx hb hts inX0 hown hK hP 3 rfl rfl 5 (by decide) (hts _ q105) (fun _ h9 => h9) rfl dX0_append_37 ?_
  refine lv_aload_n hx hb dX0_append_40 rfl (lv_at hl 0 rfl) ?_
  refine va_get (D := (dC, dI)) (ci := 0) (v := .int 0) (C := RX0) (T := TX0) (N := 13) hx hb hts inX0 hown hK hP 3 rfl rfl 0 (by decide) (hts _ q90) (fun _ h9 => h9) rfl dX0_append_41 ?_
  refine lv_iload_n hx hb dX0_append_44 rfl (lv_at hl 3 rfl) ?_
  refine lv_if_ge (tgt := 52) hx hb dX0_append_45 (by decide) (fun h9 => absurd h9 (by decide)) (fun _ => ?_)
  refine lv_iconst (v := 0) hx hb dX0_append_48 (by decide) ?_
  refine lv_goto (tgt := 60) hx hb dX0_append_49 (by decide) ?_
  refine xa_iast (k := 0) (w1 := [(a1, .inl (cI, 250, .inl (upd (fun _ => 0) 0 0))), (a2, .inl (cZ, 250, .inl (upd (fun _ => 0) 0 1))), (a3, .inl (cI, 250, .inl (upd (fun _ => 0) 0 0))), (a0, .inr (0, [.int 0, .int 0, .int 1, .ref a1, .ref a2, .ref a3, .ref a4, .ref a5, .ref a6, .int 0, .ref a7, .ref a8, .ref a9])), (a4, .inl (cI, 512, .inl (fun _ => 0)))]) hx hb hK hP hD hS 2 0 rfl rfl (by decide) (by decide +kernel) (Nat.le_of_ble_eq_true rfl) rfl dX0_append_60 (fun H locs hP hD hS => ?_)
  refine lv_aload_n hx hb dX0_append_61 rfl (lv_at hl 0 rfl) ?_
  refine lv_dup hx hb dX0_append_62 rfl ?_
  refine va_get (D := (dC, dI)) (ci := 0) (v := .int 0) (C := RX0) (T := TX0) (N := 13) hx hb hts inX0 hown hK hP 3 rfl rfl 0 (by decide) (hts _ q90) (fun _ h9 => h9) rfl dX0_append_63 ?_
  refine lv_iconst (v := 1) hx hb dX0_append_66 (by decide) ?_
  refine lv_iadd hx hb dX0_append_67 ?_
  refine tI (v := 1) (by decide +kernel) ?_
  refine va_put (D := (dC, dI)) (ci := 0) (v := .int 1) (ty := .int) (C := RX0) (T := TX0) (N := 13) hx hb hts inX0 tyX0 tyX0_ok nmX0 hown hK hP hD hS 3 rfl rfl 0 (by decide) (hts _ q90) (fun _ h9 => h9) rfl (by decide +kernel) rfl rfl (Nat.le_of_ble_eq_true rfl) dX0_append_68 (fun H locs hP hD hS => ?_)
  have hP : va_P (dC, dI) vwCl [(a1, .inl (cI, 250, .inl (upd (fun _ => 0) 0 0))), (a2, .inl (cZ, 250, .inl (upd (fun _ => 0) 0 1))), (a3, .inl (cI, 250, .inl (upd (fun _ => 0) 0 0))), (a0, .inr (0, [.int 1, .int 0, .int 1, .ref a1, .ref a2, .ref a3, .ref a4, .ref a5, .ref a6, .int 0, .ref a7, .ref a8, .ref a9])), (a4, .inl (cI, 512, .inl (fun _ => 0)))] H := hP
  have hD : va_D A [(a1, .inl (cI, 250, .inl (upd (fun _ => 0) 0 0))), (a2, .inl (cZ, 250, .inl (upd (fun _ => 0) 0 1))), (a3, .inl (cI, 250, .inl (upd (fun _ => 0) 0 0))), (a0, .inr (0, [.int 1, .int 0, .int 1, .ref a1, .ref a2, .ref a3, .ref a4, .ref a5, .ref a6, .int 0, .ref a7, .ref a8, .ref a9])), (a4, .inl (cI, 512, .inl (fun _ => 0)))] := hD
  refine lv_aload_n hx hb dX0_append_71 rfl (lv_at hl 0 rfl) ?_
  refine va_get (D := (dC, dI)) (ci := 0) (v := .ref a4) (C := RX0) (T := TX0) (N := 13) hx hb hts inX0 hown hK hP 3 rfl rfl 6 (by decide) (hts _ q107) (fun _ h9 => h9) rfl dX0_append_72 ?_
  refine lv_iload hx hb dX0_append_75 (lv_at hl 4 rfl) ?_
  refine lv_aload_n hx hb dX0_append_77 rfl (lv_at hl 0 rfl) ?_
  refine va_get (D := (dC, dI)) (ci := 0) (v := .int 1) (C := RX0) (T := TX0) (N := 13) hx hb hts inX0 hown hK hP 3 rfl rfl 0 (by decide) (hts _ q90) (fun _ h9 => h9) rfl dX0_append_78 ?_
  refine xa_iast (k := 316) (w1 := [(a1, .inl (cI, 250, .inl (upd (fun _ => 0) 0 0))), (a2, .inl (cZ, 250, .inl (upd (fun _ => 0) 0 1))), (a3, .inl (cI, 250, .inl (upd (fun _ => 0) 0 0))), (a0, .inr (0, [.int 1, .int 0, .int 1, .ref a1, .ref a2, .ref a3, .ref a4, .ref a5, .ref a6, .int 0, .ref a7, .ref a8, .ref a9])), (a4, .inl (cI, 512, .inl (upd (fun _ => 0) 316 1)))]) hx hb hK hP hD hS 4 0 rfl rfl (by decide) (by decide +kernel) (Nat.le_of_ble_eq_true rfl) rfl dX0_append_81 (fun H locs hP hD hS => ?_)
  exact xr_v hx hb hr hlocks hP hD hS [0, 1, 2, 3, 4] rfl (by decide) (Nat.le_of_ble_eq_true rfl) (Nat.le_of_ble_eq_true rfl) dX0_append_82
set_option maxHeartbeats 4000000 in
set_option maxRecDepth 100000 in
theorem kX0_meet_0 (l : Launch) (hfl : l.stackTraces = false) (dC : Nat → ClassId) (dI : Nat → Nat → Nat) (cI cZ cJ cD : ClassId) (a0 a1 a2 a3 a4 a5 a6 a7 a8 a9 : Nat) (sz : Nat) : Met l yX0_meet (ws_ yX0_meet cX0_meet 7 none) (rm_ 2 0 0) (PC (dC, dI) (tyL cI cZ cJ cD) [(a1, .inl (cI, 250, .inl (fun _ => 0))), (a2, .inl (cZ, 250, .inl (fun _ => 0))), (a3, .inl (cI, 250, .inl (fun _ => 0))), (a0, .inr (0, [.int 0, .int 0, .int 1, .ref a1, .ref a2, .ref a3, .ref a4, .ref a5, .ref a6, .int 0, .ref a7, .ref a8, .ref a9])), (a4, .inl (cI, 512, .inl (fun _ => 0)))] sz [.ref a0, .int 0, .int (-1)]) (QR (dC, dI) [(a1, .inl (cI, 250, .inl (upd (fun _ => 0) 0 0))), (a2, .inl (cZ, 250, .inl (upd (fun _ => 0) 0 1))), (a3, .inl (cI, 250, .inl (upd (fun _ => 0) 0 0))), (a0, .inr (0, [.int 1, .int 0, .int 1, .ref a1, .ref a2, .ref a3, .ref a4, .ref a5, .ref a6, .int 0, .ref a7, .ref a8, .ref a9])), (a4, .inl (cI, 512, .inl (upd (fun _ => 0) 316 1)))] none (va_A [(a1, .inl (cI, 250, .inl (fun _ => 0))), (a2, .inl (cZ, 250, .inl (fun _ => 0))), (a3, .inl (cI, 250, .inl (fun _ => 0))), (a0, .inr (0, [.int 0, .int 0, .int 1, .ref a1, .ref a2, .ref a3, .ref a4, .ref a5, .ref a6, .int 0, .ref a7, .ref a8, .ref a9])), (a4, .inl (cI, 512, .inl (fun _ => 0)))] sz)) 0 0 (va_A [(a1, .inl (cI, 250, .inl (fun _ => 0))), (a2, .inl (cZ, 250, .inl (fun _ => 0))), (a3, .inl (cI, 250, .inl (fun _ => 0))), (a0, .inr (0, [.int 0, .int 0, .int 1, .ref a1, .ref a2, .ref a3, .ref a4, .ref a5, .ref a6, .int 0, .ref a7, .ref a8, .ref a9])), (a4, .inl (cI, 512, .inl (fun _ => 0)))] sz) := by
  refine xm_of (QQ := QR (dC, dI) [(a1, .inl (cI, 250, .inl (upd (fun _ => 0) 0 0))), (a2, .inl (cZ, 250, .inl (upd (fun _ => 0) 0 1))), (a3, .inl (cI, 250, .inl (upd (fun _ => 0) 0 0))), (a0, .inr (0, [.int 1, .int 0, .int 1, .ref a1, .ref a2, .ref a3, .ref a4, .ref a5, .ref a6, .int 0, .ref a7, .ref a8, .ref a9])), (a4, .inl (cI, 512, .inl (upd (fun _ => 0) 316 1)))] none) (by decide +kernel) (Nat.le_of_ble_eq_true rfl) ?_
  intro p e s m below meth c A ls hx hb hr hml hown hts hlocks hin hK hP hD hE hA hS hl
  have hown : s.vm.findClass RX0 = some m.cls := hown
  have hl : lv_has ls 7 [(0, .ref a0), (1, .int 0), (2, .int (-1))] := hl
  have hP : va_P (dC, dI) vwCl [(a1, .inl (cI, 250, .inl (fun _ => 0))), (a2, .inl (cZ, 250, .inl (fun _ => 0))), (a3, .inl (cI, 250, .inl (fun _ => 0))), (a0, .inr (0, [.int 0, .int 0, .int 1, .ref a1, .ref a2, .ref a3, .ref a4, .ref a5, .ref a6, .int 0, .ref a7, .ref a8, .ref a9])), (a4, .inl (cI, 512, .inl (fun _ => 0)))] s.heap := hP
  refine lv_iload_n hx hb dX0_meet_0 rfl (lv_at hl 2 rfl) ?_
  refine lv_if_lt (tgt := 13) hx hb dX0_meet_1 (by decide) (fun _ => ?_) (fun h9 => absurd (by decide) h9)
  refine lv_iconst (v := 1) hx hb dX0_meet_13 (by decide) ?_
  refine lv_goto (tgt := 18) hx hb dX0_meet_14 (by decide) ?_
  refine lv_istore_n (lv' := [(3, .int 1), (0, .ref a0), (1, .int 0), (2, .int (-1))]) hx hb dX0_meet_18 rfl hl (by decide) rfl (fun ls hl => ?_)
  refine lv_iload_n hx hb dX0_meet_19 rfl (lv_at hl 0 rfl) ?_
  refine lv_if_eq (tgt := 38) hx hb dX0_meet_20 (by decide) (fun h9 => absurd h9 (by decide)) (fun _ => ?_)
  refine lv_iload_n hx hb dX0_meet_23 rfl (lv_at hl 3 rfl) ?_
  refine lv_if_lt (tgt := 38) hx hb dX0_meet_24 (by decide) (fun _ => ?_) (fun h9 => absurd (by decide) h9)
  refine lv_iload_n hx hb dX0_meet_38 rfl (lv_at hl 2 rfl) ?_
  refine lv_iload_n hx hb dX0_meet_39 rfl (lv_at hl 2 rfl) ?_
  refine lv_iadd hx hb dX0_meet_40 ?_
  refine tI (v := 0) (by decide +kernel) ?_
  refine lv_iload_n hx hb dX0_meet_41 rfl (lv_at hl 0 rfl) ?_
  refine lv_if_eq (tgt := 49) hx hb dX0_meet_42 (by decide) (fun h9 => absurd h9 (by decide)) (fun _ => ?_)
  refine lv_iconst (v := 1) hx hb dX0_meet_45 (by decide) ?_
  refine lv_goto (tgt := 50) hx hb dX0_meet_46 (by decide) ?_
  refine lv_iadd hx hb dX0_meet_50 ?_
  refine tI (v := 1) (by decide +kernel) ?_
  refine lv_ldc (v := (-1640531535)) hx hb hown (hts _ q318) dX0_meet_51 ?_
  refine lv_imul hx hb dX0_meet_53 ?_
  refine tI (v := (-1640531535)) (by decide +kernel) ?_
  refine lv_bipush (v := 23) hx hb dX0_meet_54 (by decide) ?_
  refine lv_iushr (v := 316) hx hb dX0_meet_56 (by decide +kernel) ?_
  refine lv_istore (lv' := [(4, .int 316), (3, .int 1), (0, .ref a0), (1, .int 0), (2, .int (-1))]) hx hb dX0_meet_57 hl (by decide) rfl (fun ls hl => ?_)
  refine lv_iconst (v := 0) hx hb dX0_meet_59 (by decide) ?_
  refine lv_istore (lv' := [(5, .int 0), (4, .int 316), (3, .int 1), (0, .ref a0), (1, .int 0), (2, .int (-1))]) hx hb dX0_meet_60 hl (by decide) rfl (fun ls hl => ?_)
  refine lv_iload hx hb dX0_meet_62 (lv_at hl 0 rfl) ?_
  refine lv_sipush (v := 512) hx hb dX0_meet_64 (by decide) ?_
  refine lv_icmp_ge (tgt := 135) hx hb dX0_meet_67 (by decide) (fun h9 => absurd h9 (by decide)) (fun _ => ?_)
  refine lv_aload_n hx hb dX0_meet_70 rfl (lv_at hl 3 rfl) ?_
  refine va_get (D := (dC, dI)) (ci := 0) (v := .ref a4) (C := RX0) (T := TX0) (N := 13) hx hb hts inX0 hown hK hP 3 rfl rfl 6 (by decide) (hts _ q107) (fun _ h9 => h9) rfl dX0_meet_71 ?_
  refine lv_iload hx hb dX0_meet_74 (lv_at hl 1 rfl) ?_
  refine xa_iald (k := 316) (v := 0) hx hb hK hP 4 0 rfl rfl (by decide) (by decide +kernel) (Nat.le_of_ble_eq_true rfl) rfl dX0_meet_76 ?_
  refine lv_iconst (v := 1) hx hb dX0_meet_77 (by decide) ?_
  refine lv_isub hx hb dX0_meet_78 ?_
  refine tI (v := (-1)) (by decide +kernel) ?_
  refine lv_istore (lv' := [(6, .int (-1)), (5, .int 0), (4, .int 316), (3, .int 1), (0, .ref a0), (1, .int 0), (2, .int (-1))]) hx hb dX0_meet_79 hl (by decide) rfl (fun ls hl => ?_)
  refine lv_iload hx hb dX0_meet_81 (lv_at hl 0 rfl) ?_
  refine lv_if_ge (tgt := 96) hx hb dX0_meet_83 (by decide) (fun h9 => absurd h9 (by decide)) (fun _ => ?_)
  refine lv_aload_n hx hb dX0_meet_86 rfl (lv_at hl 4 rfl) ?_
  refine lv_iload_n hx hb dX0_meet_87 rfl (lv_at hl 5 rfl) ?_
  refine lv_iload_n hx hb dX0_meet_88 rfl (lv_at hl 3 rfl) ?_
  refine lv_iload_n hx hb dX0_meet_89 rfl (lv_at hl 6 rfl) ?_
  refine lv_iload hx hb dX0_meet_90 (lv_at hl 2 rfl) ?_
  refine xc_V (b := a0) (wc := [(a1, .inl (cI, 250, .inl (fun _ => 0))), (a2, .inl (cZ, 250, .inl (fun _ => 0))), (a3, .inl (cI, 250, .inl (fun _ => 0))), (a0, .inr (0, [.int 0, .int 0, .int 1, .ref a1, .ref a2, .ref a3, .ref a4, .ref a5, .ref a6, .int 0, .ref a7, .ref a8, .ref a9])), (a4, .inl (cI, 512, .inl (fun _ => 0)))]) (As := [.int 0, .int 1, .int (-1), .int 316]) (rest := []) (wr := []) ⟨hx, hb, hml, hown, hts⟩ (kX0_append_0 l hfl dC dI cI cZ cJ cD a0 a1 a2 a3 a4 a5 a6 a7 a8 a9 _) q319 okX0_append hP hD hK hE hS hA [0, 1, 2, 3, 4] [] rfl rfl (by decide) (by decide) (by decide) (ci := 0) rfl 3 rfl rfl rfl hl.1 rfl (Nat.le_of_ble_eq_true rfl) ⟨rfl, rfl⟩ ⟨Nat.le_of_ble_eq_true rfl, Nat.le_of_ble_eq_true rfl⟩ ⟨Nat.le_of_ble_eq_true rfl, Nat.le_of_ble_eq_true rfl⟩ dX0_meet_92 (fun H locs hP hD hS => ?_)
  have hP : va_P (dC, dI) vwCl [(a1, .inl (cI, 250, .inl (upd (fun _ => 0) 0 0))), (a2, .inl (cZ, 250, .inl (upd (fun _ => 0) 0 1))), (a3, .inl (cI, 250, .inl (upd (fun _ => 0) 0 0))), (a0, .inr (0, [.int 1, .int 0, .int 1, .ref a1, .ref a2, .ref a3, .ref a4, .ref a5, .ref a6, .int 0, .ref a7, .ref a8, .ref a9])), (a4, .inl (cI, 512, .inl (upd (fun _ => 0) 316 1)))] H := hP
  have hD : va_D A [(a1, .inl (cI, 250, .inl (upd (fun _ => 0) 0 0))), (a2, .inl (cZ, 250, .inl (upd (fun _ => 0) 0 1))), (a3, .inl (cI, 250, .inl (upd (fun _ => 0) 0 0))), (a0, .inr (0, [.int 1, .int 0, .int 1, .ref a1, .ref a2, .ref a3, .ref a4, .ref a5, .ref a6, .int 0, .ref a7, .ref a8, .ref a9])), (a4, .inl (cI, 512, .inl (upd (fun _ => 0) 316 1)))] := hD
  refine W.eq (g2 := F0 m 95 ls []) rfl ?_
  exact xr_v hx hb hr hlocks hP hD hS [0, 1, 2, 3, 4] rfl (by decide) (Nat.le_of_ble_eq_true rfl) (Nat.le_of_ble_eq_true rfl) dX0_meet_95
set_option maxHeartbeats 4000000 in
set_option maxRecDepth 100000 in
theorem kX2_bindFrom_0 (l : Launch) (hfl : l.stackTraces = false) (dC : Nat → ClassId) (dI : Nat → Nat → Nat) (cI cZ cJ cD : ClassId) (a0 a1 a2 a3 a4 a5 a6 a7 a8 a9 a10 a11 a12 a13 a14 a15 a16 a17 a18 a19 a20 a21 a22 a23 : Nat) (sz : Nat) : Met l yX2_bindFrom (ws_ yX2_bindFrom cX2_bindFrom 5 none) (rm_ 3 0 0) (PC (dC, dI) (tyL cI cZ cJ cD) [(a1, .inl (cI, 250, .inl (fun _ => 0))), (a2, .inl (cZ, 250, .inl (fun _ => 0))), (a3, .inl (cI, 250, .inl (fun _ => 0))), (a4, .inr (0, [.int 0, .int 0, .int 1, .ref a1, .ref a2, .ref a3, .ref a5, .ref a6, .ref a7, .int 0, .ref a8, .ref a9, .ref a10])), (a5, .inl (cI, 512, .inl (fun _ => 0))), (a11, .inr (1, [.int 0, .ref a12, .ref a13, .ref a14, .ref a15, .ref a16, .ref a17, .ref a18, .int 0, .ref a19, .ref a20, .ref a21, .ref a22])), (a0, .inr (2, [.ref a11, .ref a4, .ref a23, .int (-1)]))] sz [.ref a0, .int 0, .int 0]) (QR (dC, dI) [(a1, .inl (cI, 250, .inl (upd (fun _ => 0) 0 0))), (a2, .inl (cZ, 250, .inl (upd (fun _ => 0) 0 1))), (a3, .inl (cI, 250, .inl (upd (fun _ => 0) 0 0))), (a4, .inr (0, [.int 1, .int 0, .int 1, .ref a1, .ref a2, .ref a3, .ref a5, .ref a6, .ref a7, .int 0, .ref a8, .ref a9, .ref a10])), (a5, .inl (cI, 512, .inl (upd (fun _ => 0) 316 1))), (a11, .inr (1, [.int 0, .ref a12, .ref a13, .ref a14, .ref a15, .ref a16, .ref a17, .ref a18, .int 0, .ref a19, .ref a20, .ref a21, .ref a22])), (a0, .inr (2, [.ref a11, .ref a4, .ref a23, .int (-1)]))] none (va_A [(a1, .inl (cI, 250, .inl (fun _ => 0))), (a2, .inl (cZ, 250, .inl (fun _ => 0))), (a3, .inl (cI, 250, .inl (fun _ => 0))), (a4, .inr (0, [.int 0, .int 0, .int 1, .ref a1, .ref a2, .ref a3, .ref a5, .ref a6, .ref a7, .int 0, .ref a8, .ref a9, .ref a10])), (a5, .inl (cI, 512, .inl (fun _ => 0))), (a11, .inr (1, [.int 0, .ref a12, .ref a13, .ref a14, .ref a15, .ref a16, .ref a17, .ref a18, .int 0, .ref a19, .ref a20, .ref a21, .ref a22])), (a0, .inr (2, [.ref a11, .ref a4, .ref a23, .int (-1)]))] sz)) 0 0 (va_A [(a1, .inl (cI, 250, .inl (fun _ => 0))), (a2, .inl (cZ, 250, .inl (fun _ => 0))), (a3, .inl (cI, 250, .inl (fun _ => 0))), (a4, .inr (0, [.int 0, .int 0, .int 1, .ref a1, .ref a2, .ref a3, .ref a5, .ref a6, .ref a7, .int 0, .ref a8, .ref a9, .ref a10])), (a5, .inl (cI, 512, .inl (fun _ => 0))), (a11, .inr (1, [.int 0, .ref a12, .ref a13, .ref a14, .ref a15, .ref a16, .ref a17, .ref a18, .int 0, .ref a19, .ref a20, .ref a21, .ref a22])), (a0, .inr (2, [.ref a11, .ref a4, .ref a23, .int (-1)]))] sz) := by
  refine xm_of (QQ := QR (dC, dI) [(a1, .inl (cI, 250, .inl (upd (fun _ => 0) 0 0))), (a2, .inl (cZ, 250, .inl (upd (fun _ => 0) 0 1))), (a3, .inl (cI, 250, .inl (upd (fun _ => 0) 0 0))), (a4, .inr (0, [.int 1, .int 0, .int 1, .ref a1, .ref a2, .ref a3, .ref a5, .ref a6, .ref a7, .int 0, .ref a8, .ref a9, .ref a10])), (a5, .inl (cI, 512, .inl (upd (fun _ => 0) 316 1))), (a11, .inr (1, [.int 0, .ref a12, .ref a13, .ref a14, .ref a15, .ref a16, .ref a17, .ref a18, .int 0, .ref a19, .ref a20, .ref a21, .ref a22])), (a0, .inr (2, [.ref a11, .ref a4, .ref a23, .int (-1)]))] none) (by decide +kernel) (Nat.le_of_ble_eq_true rfl) ?_
  intro p e s m below meth c A ls hx hb hr hml hown hts hlocks hin hK hP hD hE hA hS hl
  have hown : s.vm.findClass RX2 = some m.cls := hown
  have hl : lv_has ls 5 [(0, .ref a0), (1, .int 0), (2, .int 0)] := hl
  have hP : va_P (dC, dI) vwCl [(a1, .inl (cI, 250, .inl (fun _ => 0))), (a2, .inl (cZ, 250, .inl (fun _ => 0))), (a3, .inl (cI, 250, .inl (fun _ => 0))), (a4, .inr (0, [.int 0, .int 0, .int 1, .ref a1, .ref a2, .ref a3, .ref a5, .ref a6, .ref a7, .int 0, .ref a8, .ref a9, .ref a10])), (a5, .inl (cI, 512, .inl (fun _ => 0))), (a11, .inr (1, [.int 0, .ref a12, .ref a13, .ref a14, .ref a15, .ref a16, .ref a17, .ref a18, .int 0, .ref a19, .ref a20, .ref a21, .ref a22])), (a0, .inr (2, [.ref a11, .ref a4, .ref a23, .int (-1)]))] s.heap := hP
  refine lv_iload_n hx hb dX2_bindFrom_0 rfl (lv_at hl 1 rfl) ?_
  refine lv_aload_n hx hb dX2_bindFrom_1 rfl (lv_at hl 0 rfl) ?_
  refine va_get (D := (dC, dI)) (ci := 2) (v := .ref a11) (C := RX2) (T := TX2) (N := 4) hx hb hts inX2 hown hK hP 6 rfl rfl 0 (by decide) (hts _ q151) (fun _ h9 => h9) rfl dX2_bindFrom_2 ?_
  refine va_get (D := (dC, dI)) (ci := 1) (v := .int 0) (C := RX1) (T := TX1) (N := 13) hx hb hts inX1 hown hK hP 5 rfl rfl 0 (by decide) (hts _ q32) (fun _ h9 => h9) rfl dX2_bindFrom_5 ?_
  refine lv_icmp_lt (tgt := 24) hx hb dX2_bindFrom_8 (by decide) (fun h9 => absurd h9 (by decide)) (fun _ => ?_)
  refine lv_aload_n hx hb dX2_bindFrom_11 rfl (lv_at hl 0 rfl) ?_
  refine va_get (D := (dC, dI)) (ci := 2) (v := .ref a4) (C := RX2) (T := TX2) (N := 4) hx hb hts inX2 hown hK hP 6 rfl rfl 1 (by decide) (hts _ q152) (fun _ h9 => h9) rfl dX2_bindFrom_12 ?_
  refine lv_iload_n hx hb dX2_bindFrom_15 rfl (lv_at hl 2 rfl) ?_
  refine lv_aload_n hx hb dX2_bindFrom_16 rfl (lv_at hl 0 rfl) ?_
  refine va_get (D := (dC, dI)) (ci := 2) (v := .int (-1)) (C := RX2) (T := TX2) (N := 4) hx hb hts inX2 hown hK hP 6 rfl rfl 3 (by decide) (hts _ q154) (fun _ h9 => h9) rfl dX2_bindFrom_17 ?_
  refine xc_V (b := a4) (wc := [(a1, .inl (cI, 250, .inl (fun _ => 0))), (a2, .inl (cZ, 250, .inl (fun _ => 0))), (a3, .inl (cI, 250, .inl (fun _ => 0))), (a4, .inr (0, [.int 0, .int 0, .int 1, .ref a1, .ref a2, .ref a3, .ref a5, .ref a6, .ref a7, .int 0, .ref a8, .ref a9, .ref a10])), (a5, .inl (cI, 512, .inl (fun _ => 0)))]) (As := [.int 0, .int (-1)]) (rest := []) (wr := [(a11, .inr (1, [.int 0, .ref a12, .ref a13, .ref a14, .ref a15, .ref a16, .ref a17, .ref a18, .int 0, .ref a19, .ref a20, .ref a21, .ref a22])), (a0, .inr (2, [.ref a11, .ref a4, .ref a23, .int (-1)]))]) ⟨hx, hb, hml, hown, hts⟩ (kX0_meet_0 l hfl dC dI cI cZ cJ cD a4 a1 a2 a3 a5 a6 a7 a8 a9 a10 _) q314 okX0_meet hP hD hK hE hS hA [0, 1, 2, 3, 4] [5, 6] rfl rfl (by decide) (by decide) (by decide) (ci := 0) rfl 3 rfl rfl rfl hl.1 rfl (Nat.le_of_ble_eq_true rfl) ⟨rfl, rfl⟩ ⟨Nat.le_of_ble_eq_true rfl, Nat.le_of_ble_eq_true rfl⟩ ⟨Nat.le_of_ble_eq_true rfl, Nat.le_of_ble_eq_true rfl⟩ dX2_bindFrom_20 (fun H locs hP hD hS => ?_)
  have hP : va_P (dC, dI) vwCl [(a11, .inr (1, [.int 0, .ref a12, .ref a13, .ref a14, .ref a15, .ref a16, .ref a17, .ref a18, .int 0, .ref a19, .ref a20, .ref a21, .ref a22])), (a0, .inr (2, [.ref a11, .ref a4, .ref a23, .int (-1)])), (a1, .inl (cI, 250, .inl (upd (fun _ => 0) 0 0))), (a2, .inl (cZ, 250, .inl (upd (fun _ => 0) 0 1))), (a3, .inl (cI, 250, .inl (upd (fun _ => 0) 0 0))), (a4, .inr (0, [.int 1, .int 0, .int 1, .ref a1, .ref a2, .ref a3, .ref a5, .ref a6, .ref a7, .int 0, .ref a8, .ref a9, .ref a10])), (a5, .inl (cI, 512, .inl (upd (fun _ => 0) 316 1)))] H := hP
  have hD : va_D A [(a11, .inr (1, [.int 0, .ref a12, .ref a13, .ref a14, .ref a15, .ref a16, .ref a17, .ref a18, .int 0, .ref a19, .ref a20, .ref a21, .ref a22])), (a0, .inr (2, [.ref a11, .ref a4, .ref a23, .int (-1)])), (a1, .inl (cI, 250, .inl (upd (fun _ => 0) 0 0))), (a2, .inl (cZ, 250, .inl (upd (fun _ => 0) 0 1))), (a3, .inl (cI, 250, .inl (upd (fun _ => 0) 0 0))), (a4, .inr (0, [.int 1, .int 0, .int 1, .ref a1, .ref a2, .ref a3, .ref a5, .ref a6, .ref a7, .int 0, .ref a8, .ref a9, .ref a10])), (a5, .inl (cI, 512, .inl (upd (fun _ => 0) 316 1)))] := hD
  refine W.eq (g2 := F0 m 23 ls []) rfl ?_
  exact xr_v hx hb hr hlocks hP hD hS [2, 3, 4, 5, 6, 0, 1] rfl (by decide) (Nat.le_of_ble_eq_true rfl) (Nat.le_of_ble_eq_true rfl) dX2_bindFrom_23
set_option maxHeartbeats 4000000 in
set_option maxRecDepth 100000 in
theorem kX2_setToFollowing_1 (l : Launch) (hfl : l.stackTraces = false) (dC : Nat → ClassId) (dI : Nat → Nat → Nat) (cI cZ cJ cD : ClassId) (a0 a1 a2 a3 a4 a5 a6 a7 a8 a9 a10 a11 a12 a13 a14 : Nat) (sz : Nat) : Met l yX2_setToFollowing (ws_ yX2_setToFollowing cX2_setToFollowing 3 none) (rm_ 1 0 0) (PC (dC, dI) (tyL cI cZ cJ cD) [(a1, .inr (1, [.int 0, .ref a2, .ref a3, .ref a4, .ref a5, .ref a6, .ref a7, .ref a8, .int 0, .ref a9, .ref a10, .ref a11, .ref a12])), (a0, .inr (2, [.ref a1, .ref a13, .ref a14, .int 0]))] sz [.ref a0, .int 0]) (QR (dC, dI) [(a1, .inr (1, [.int 0, .ref a2, .ref a3, .ref a4, .ref a5, .ref a6, .ref a7, .ref a8, .int 0, .ref a9, .ref a10, .ref a11, .ref a12])), (a0, .inr (2, [.ref a1, .ref a13, .ref a14, .int 0]))] none (va_A [(a1, .inr (1, [.int 0, .ref a2, .ref a3, .ref a4, .ref a5, .ref a6, .ref a7, .ref a8, .int 0, .ref a9, .ref a10, .ref a11, .ref a12])), (a0, .inr (2, [.ref a1, .ref a13, .ref a14, .int 0]))] sz)) 0 0 (va_A [(a1, .inr (1, [.int 0, .ref a2, .ref a3, .ref a4, .ref a5, .ref a6, .ref a7, .ref a8, .int 0, .ref a9, .ref a10, .ref a11, .ref a12])), (a0, .inr (2, [.ref a1, .ref a13, .ref a14, .int 0]))] sz) := by
  refine xm_of (QQ := QR (dC, dI) [(a1, .inr (1, [.int 0, .ref a2, .ref a3, .ref a4, .ref a5, .ref a6, .ref a7, .ref a8, .int 0, .ref a9, .ref a10, .ref a11, .ref a12])), (a0, .inr (2, [.ref a1, .ref a13, .ref a14, .int 0]))] none) (by decide +kernel) (Nat.le_of_ble_eq_true rfl) ?_
  intro p e s m below meth c A ls hx hb hr hml hown hts hlocks hin hK hP hD hE hA hS hl
  have hown : s.vm.findClass RX2 = some m.cls := hown
  have hl : lv_has ls 3 [(0, .ref a0), (1, .int 0)] := hl
  have hP : va_P (dC, dI) vwCl [(a1, .inr (1, [.int 0, .ref a2, .ref a3, .ref a4, .ref a5, .ref a6, .ref a7, .ref a8, .int 0, .ref a9, .ref a10, .ref a11, .ref a12])), (a0, .inr (2, [.ref a1, .ref a13, .ref a14, .int 0]))] s.heap := hP
  refine lv_iconst (v := 0) hx hb dX2_setToFollowing_0 (by decide) ?_
  refine lv_istore_n (lv' := [(2, .int 0), (0, .ref a0), (1, .int 0)]) hx hb dX2_setToFollowing_1 rfl hl (by decide) rfl (fun ls hl => ?_)
  refine lv_iload_n hx hb dX2_setToFollowing_2 rfl (lv_at hl 0 rfl) ?_
  refine lv_aload_n hx hb dX2_setToFollowing_3 rfl (lv_at hl 1 rfl) ?_
  refine va_get (D := (dC, dI)) (ci := 2) (v := .ref a1) (C := RX2) (T := TX2) (N := 4) hx hb hts inX2 hown hK hP 1 rfl rfl 0 (by decide) (hts _ q151) (fun _ h9 => h9) rfl dX2_setToFollowing_4 ?_
  refine va_get (D := (dC, dI)) (ci := 1) (v := .int 0) (C := RX1) (T := TX1) (N := 13) hx hb hts inX1 hown hK hP 0 rfl rfl 0 (by decide) (hts _ q32) (fun _ h9 => h9) rfl dX2_setToFollowing_7 ?_
  refine lv_icmp_ge (tgt := 116) hx hb dX2_setToFollowing_10 (by decide) (fun _ => ?_) (fun h9 => absurd (by decide) h9)
  exact xr_v hx hb hr hlocks hP hD hS [0, 1] rfl (by decide) (Nat.le_of_ble_eq_true rfl) (Nat.le_of_ble_eq_true rfl) dX2_setToFollowing_116
set_option maxHeartbeats 4000000 in
set_option maxRecDepth 100000 in
theorem kX2_codesLeft_1 (l : Launch) (hfl : l.stackTraces = false) (dC : Nat → ClassId) (dI : Nat → Nat → Nat) (cI cZ cJ cD : ClassId) (a0 a1 a2 a3 a4 a5 a6 a7 a8 a9 a10 a11 a12 a13 a14 : Nat) (sz : Nat) : Met l yX2_codesLeft (ws_ yX2_codesLeft cX2_codesLeft 3 (some .int)) (rm_ 1 0 0) (PC (dC, dI) (tyL cI cZ cJ cD) [(a1, .inr (1, [.int 0, .ref a2, .ref a3, .ref a4, .ref a5, .ref a6, .ref a7, .ref a8, .int 0, .ref a9, .ref a10, .ref a11, .ref a12])), (a0, .inr (2, [.ref a1, .ref a13, .ref a14, .int 0]))] sz [.ref a0]) (QR (dC, dI) [(a1, .inr (1, [.int 0, .ref a2, .ref a3, .ref a4, .ref a5, .ref a6, .ref a7, .ref a8, .int 0, .ref a9, .ref a10, .ref a11, .ref a12])), (a0, .inr (2, [.ref a1, .ref a13, .ref a14, .int 0]))] (some (.int 0)) (va_A [(a1, .inr (1, [.int 0, .ref a2, .ref a3, .ref a4, .ref a5, .ref a6, .ref a7, .ref a8, .int 0, .ref a9, .ref a10, .ref a11, .ref a12])), (a0, .inr (2, [.ref a1, .ref a13, .ref a14, .int 0]))] sz)) 0 0 (va_A [(a1, .inr (1, [.int 0, .ref a2, .ref a3, .ref a4, .ref a5, .ref a6, .ref a7, .ref a8, .int 0, .ref a9, .ref a10, .ref a11, .ref a12])), (a0, .inr (2, [.ref a1, .ref a13, .ref a14, .int 0]))] sz) := by
  refine xm_of (QQ := QR (dC, dI) [(a1, .inr (1, [.int 0, .ref a2, .ref a3, .ref a4, .ref a5, .ref a6, .ref a7, .ref a8, .int 0, .ref a9, .ref a10, .ref a11, .ref a12])), (a0, .inr (2, [.ref a1, .ref a13, .ref a14, .int 0]))] (some (.int 0))) (by decide +kernel) (Nat.le_of_ble_eq_true rfl) ?_
  intro p e s m below meth c A ls hx hb hr hml hown hts hlocks hin hK hP hD hE hA hS hl
  have hown : s.vm.findClass RX2 = some m.cls := hown
  have hl : lv_has ls 3 [(0, .ref a0)] := hl
  have hP : va_P (dC, dI) vwCl [(a1, .inr (1, [.int 0, .ref a2, .ref a3, .ref a4, .ref a5, .ref a6, .ref a7, .ref a8, .int 0, .ref a9, .ref a10, .ref a11, .ref a12])), (a0, .inr (2, [.ref a1, .ref a13, .ref a14, .int 0]))] s.heap := hP
  refine lv_iconst (v := 0) hx hb dX2_codesLeft_0 (by decide) ?_
  refine lv_istore_n (lv' := [(1, .int 0), (0, .ref a0)]) hx hb dX2_codesLeft_1 rfl hl (by decide) rfl (fun ls hl => ?_)
  refine lv_iconst (v := 0) hx hb dX2_codesLeft_2 (by decide) ?_
  refine lv_istore_n (lv' := [(2, .int 0), (1, .int 0), (0, .ref a0)]) hx hb dX2_codesLeft_3 rfl hl (by decide) rfl (fun ls hl => ?_)
  refine lv_iload_n hx hb dX2_codesLeft_4 rfl (lv_at hl 0 rfl) ?_
  refine lv_aload_n hx hb dX2_codesLeft_5 rfl (lv_at hl 2 rfl) ?_
  refine va_get (D := (dC, dI)) (ci := 2) (v := .ref a1) (C := RX2) (T := TX2) (N := 4) hx hb hts inX2 hown hK hP 1 rfl rfl 0 (by decide) (hts _ q151) (fun _ h9 => h9) rfl dX2_codesLeft_6 ?_
  refine va_get (D := (dC, dI)) (ci := 1) (v := .int 0) (C := RX1) (T := TX1) (N := 13) hx hb hts inX1 hown hK hP 0 rfl rfl 0 (by decide) (hts _ q32) (fun _ h9 => h9) rfl dX2_codesLeft_9 ?_
  refine lv_icmp_ge (tgt := 33) hx hb dX2_codesLeft_12 (by decide) (fun _ => ?_) (fun h9 => absurd (by decide) h9)
  refine lv_iload_n hx hb dX2_codesLeft_33 rfl (lv_at hl 1 rfl) ?_
  exact xr_i hx hb hr hlocks hP hD hS [0, 1] rfl (by decide) (Nat.le_of_ble_eq_true rfl) (Nat.le_of_ble_eq_true rfl) dX2_codesLeft_34
set_option maxHeartbeats 4000000 in
set_option maxRecDepth 100000 in
theorem kX2_narrowUntilStable_1 (l : Launch) (hfl : l.stackTraces = false) (dC : Nat → ClassId) (dI : Nat → Nat → Nat) (cI cZ cJ cD : ClassId) (a0 a1 a2 a3 a4 a5 a6 a7 a8 a9 a10 a11 a12 a13 a14 : Nat) (sz : Nat) : Met l yX2_narrowUntilStable (ws_ yX2_narrowUntilStable cX2_narrowUntilStable 4 (some .boolean)) (rm_ 2 0 0) (PC (dC, dI) (tyL cI cZ cJ cD) [(a1, .inr (1, [.int 0, .ref a2, .ref a3, .ref a4, .ref a5, .ref a6, .ref a7, .ref a8, .int 0, .ref a9, .ref a10, .ref a11, .ref a12])), (a0, .inr (2, [.ref a1, .ref a13, .ref a14, .int 0]))] sz [.ref a0]) (QR (dC, dI) [(a1, .inr (1, [.int 0, .ref a2, .ref a3, .ref a4, .ref a5, .ref a6, .ref a7, .ref a8, .int 0, .ref a9, .ref a10, .ref a11, .ref a12])), (a0, .inr (2, [.ref a1, .ref a13, .ref a14, .int 0]))] (some (.int 1)) (va_A [(a1, .inr (1, [.int 0, .ref a2, .ref a3, .ref a4, .ref a5, .ref a6, .ref a7, .ref a8, .int 0, .ref a9, .ref a10, .ref a11, .ref a12])), (a0, .inr (2, [.ref a1, .ref a13, .ref a14, .int 0]))] sz)) 0 0 (va_A [(a1, .inr (1, [.int 0, .ref a2, .ref a3, .ref a4, .ref a5, .ref a6, .ref a7, .ref a8, .int 0, .ref a9, .ref a10, .ref a11, .ref a12])), (a0, .inr (2, [.ref a1, .ref a13, .ref a14, .int 0]))] sz) := by
  refine xm_of (QQ := QR (dC, dI) [(a1, .inr (1, [.int 0, .ref a2, .ref a3, .ref a4, .ref a5, .ref a6, .ref a7, .ref a8, .int 0, .ref a9, .ref a10, .ref a11, .ref a12])), (a0, .inr (2, [.ref a1, .ref a13, .ref a14, .int 0]))] (some (.int 1))) (by decide +kernel) (Nat.le_of_ble_eq_true rfl) ?_
  intro p e s m below meth c A ls hx hb hr hml hown hts hlocks hin hK hP hD hE hA hS hl
  have hown : s.vm.findClass RX2 = some m.cls := hown
  have hl : lv_has ls 4 [(0, .ref a0)] := hl
  have hP : va_P (dC, dI) vwCl [(a1, .inr (1, [.int 0, .ref a2, .ref a3, .ref a4, .ref a5, .ref a6, .ref a7, .ref a8, .int 0, .ref a9, .ref a10, .ref a11, .ref a12])), (a0, .inr (2, [.ref a1, .ref a13, .ref a14, .int 0]))] s.heap := hP
  refine lv_iconst (v := 0) hx hb dX2_narrowUntilStable_0 (by decide) ?_
  refine lv_istore_n (lv' := [(1, .int 0), (0, .ref a0)]) hx hb dX2_narrowUntilStable_1 rfl hl (by decide) rfl (fun ls hl => ?_)
  refine lv_iload_n hx hb dX2_narrowUntilStable_2 rfl (lv_at hl 0 rfl) ?_
  refine lv_bipush (v := 84) hx hb dX2_narrowUntilStable_3 (by decide) ?_
  refine lv_icmp_ge (tgt := 59) hx hb dX2_narrowUntilStable_5 (by decide) (fun h9 => absurd h9 (by decide)) (fun _ => ?_)
  refine lv_aload_n hx hb dX2_narrowUntilStable_8 rfl (lv_at hl 1 rfl) ?_
  refine xc_V (b := a0) (wc := [(a1, .inr (1, [.int 0, .ref a2, .ref a3, .ref a4, .ref a5, .ref a6, .ref a7, .ref a8, .int 0, .ref a9, .ref a10, .ref a11, .ref a12])), (a0, .inr (2, [.ref a1, .ref a13, .ref a14, .int 0]))]) (As := []) (rest := []) (wr := []) ⟨hx, hb, hml, hown, hts⟩ (kX2_codesLeft_1 l hfl dC dI cI cZ cJ cD a0 a1 a2 a3 a4 a5 a6 a7 a8 a9 a10 a11 a12 a13 a14 _) q242 okX2_codesLeft hP hD hK hE hS hA [0, 1] [] rfl rfl (by decide) (by decide) (by decide) (ci := 2) rfl 1 rfl rfl rfl hl.1 rfl (Nat.le_of_ble_eq_true rfl) ⟨rfl, rfl⟩ ⟨Nat.le_of_ble_eq_true rfl, Nat.le_of_ble_eq_true rfl⟩ ⟨Nat.le_of_ble_eq_true rfl, Nat.le_of_ble_eq_true rfl⟩ dX2_narrowUntilStable_9 (fun H locs hP hD hS => ?_)
  have hP : va_P (dC, dI) vwCl [(a1, .inr (1, [.int 0, .ref a2, .ref a3, .ref a4, .ref a5, .ref a6, .ref a7, .ref a8, .int 0, .ref a9, .ref a10, .ref a11, .ref a12])), (a0, .inr (2, [.ref a1, .ref a13, .ref a14, .int 0]))] H := hP
  have hD : va_D A [(a1, .inr (1, [.int 0, .ref a2, .ref a3, .ref a4, .ref a5, .ref a6, .ref a7, .ref a8, .int 0, .ref a9, .ref a10, .ref a11, .ref a12])), (a0, .inr (2, [.ref a1, .ref a13, .ref a14, .int 0]))] := hD
  refine W.eq (g2 := F0 m 12 ls [.int 0]) rfl ?_
  refine lv_istore_n (lv' := [(2, .int 0), (1, .int 0), (0, .ref a0)]) hx hb dX2_narrowUntilStable_12 rfl hl (by decide) rfl (fun ls hl => ?_)
  refine lv_iconst (v := 0) hx hb dX2_narrowUntilStable_13 (by decide) ?_
  refine lv_istore_n (lv' := [(3, .int 0), (2, .int 0), (1, .int 0), (0, .ref a0)]) hx hb dX2_narrowUntilStable_14 rfl hl (by decide) rfl (fun ls hl => ?_)
  refine lv_iload_n hx hb dX2_narrowUntilStable_15 rfl (lv_at hl 0 rfl) ?_
  refine lv_aload_n hx hb dX2_narrowUntilStable_16 rfl (lv_at hl 3 rfl) ?_
  refine va_get (D := (dC, dI)) (ci := 2) (v := .ref a1) (C := RX2) (T := TX2) (N := 4) hx hb hts inX2 hown hK hP 1 rfl rfl 0 (by decide) (hts _ q151) (fun _ h9 => h9) rfl dX2_narrowUntilStable_17 ?_
  refine va_get (D := (dC, dI)) (ci := 1) (v := .int 0) (C := RX1) (T := TX1) (N := 13) hx hb hts inX1 hown hK hP 0 rfl rfl 8 (by decide) (hts _ q46) (fun _ h9 => h9) rfl dX2_narrowUntilStable_20 ?_
  refine lv_icmp_ge (tgt := 43) hx hb dX2_narrowUntilStable_23 (by decide) (fun _ => ?_) (fun h9 => absurd (by decide) h9)
  refine lv_aload_n hx hb dX2_narrowUntilStable_43 rfl (lv_at hl 3 rfl) ?_
  refine xc_V (b := a0) (wc := [(a1, .inr (1, [.int 0, .ref a2, .ref a3, .ref a4, .ref a5, .ref a6, .ref a7, .ref a8, .int 0, .ref a9, .ref a10, .ref a11, .ref a12])), (a0, .inr (2, [.ref a1, .ref a13, .ref a14, .int 0]))]) (As := []) (rest := []) (wr := []) ⟨hx, hb, hml, hown, hts⟩ (kX2_codesLeft_1 l hfl dC dI cI cZ cJ cD a0 a1 a2 a3 a4 a5 a6 a7 a8 a9 a10 a11 a12 a13 a14 _) q242 okX2_codesLeft hP hD hK hE hS hA [0, 1] [] rfl rfl (by decide) (by decide) (by decide) (ci := 2) rfl 1 rfl rfl rfl hl.1 rfl (Nat.le_of_ble_eq_true rfl) ⟨rfl, rfl⟩ ⟨Nat.le_of_ble_eq_true rfl, Nat.le_of_ble_eq_true rfl⟩ ⟨Nat.le_of_ble_eq_true rfl, Nat.le_of_ble_eq_true rfl⟩ dX2_narrowUntilStable_44 (fun H locs hP hD hS => ?_)
  have hP : va_P (dC, dI) vwCl [(a1, .inr (1, [.int 0, .ref a2, .ref a3, .ref a4, .ref a5, .ref a6, .ref a7, .ref a8, .int 0, .ref a9, .ref a10, .ref a11, .ref a12])), (a0, .inr (2, [.ref a1, .ref a13, .ref a14, .int 0]))] H := hP
  have hD : va_D A [(a1, .inr (1, [.int 0, .ref a2, .ref a3, .ref a4, .ref a5, .ref a6, .ref a7, .ref a8, .int 0, .ref a9, .ref a10, .ref a11, .ref a12])), (a0, .inr (2, [.ref a1, .ref a13, .ref a14, .int 0]))] := hD
  refine W.eq (g2 := F0 m 47 ls [.int 0]) rfl ?_
  refine lv_iload_n hx hb dX2_narrowUntilStable_47 rfl (lv_at hl 1 rfl) ?_
  refine lv_icmp_ne (tgt := 53) hx hb dX2_narrowUntilStable_48 (by decide) (fun h9 => absurd (by decide) h9) (fun _ => ?_)
  refine lv_iconst (v := 1) hx hb dX2_narrowUntilStable_51 (by decide) ?_
  exact xr_z hx hb hr hlocks hP hD hS [0, 1] rfl (by decide) rfl (Nat.le_of_ble_eq_true rfl) (Nat.le_of_ble_eq_true rfl) dX2_narrowUntilStable_52
