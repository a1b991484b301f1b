set_option maxHeartbeats 4000000 in
set_option maxRecDepth 100000 in
theorem kX4_isInstant_0 (l : Launch) (hfl : l.stackTraces = false) (dC : Nat → ClassId) (dI : Nat → Nat → Nat) (cI cZ cJ cD : ClassId) (a0 a1 a2 a3 a4 a5 a6 a7 a8 a9 a10 a11 a12 a13 : Nat) (x0 : Int32) (sz : Nat) : Met l yX4_isInstant (ws_ yX4_isInstant cX4_isInstant 2 (some .boolean)) (rm_ 2 0 0) (PC (dC, dI) (tyL cI cZ cJ cD) [(a0, .inr (4, [.int 0, .int 0, .ref a1, .ref a2, .ref a3, .ref a4, .int 0, .ref a5, .ref a6, .ref a7, .ref a8, .int 0, .int 0, .int 0, .int 0, .ref a9, .ref a10, .ref a11, .ref a12, .ref a13]))] sz [.ref a0, .int x0]) (QR (dC, dI) [(a0, .inr (4, [.int 1, .int 0, .ref a1, .ref a2, .ref a3, .ref a4, .int 0, .ref a5, .ref a6, .ref a7, .ref a8, .int 0, .int 0, .int 0, .int 0, .ref a9, .ref a10, .ref a11, .ref a12, .ref a13]))] (some (.int 0)) (va_A [(a0, .inr (4, [.int 0, .int 0, .ref a1, .ref a2, .ref a3, .ref a4, .int 0, .ref a5, .ref a6, .ref a7, .ref a8, .int 0, .int 0, .int 0, .int 0, .ref a9, .ref a10, .ref a11, .ref a12, .ref a13]))] sz)) 0 0 (va_A [(a0, .inr (4, [.int 0, .int 0, .ref a1, .ref a2, .ref a3, .ref a4, .int 0, .ref a5, .ref a6, .ref a7, .ref a8, .int 0, .int 0, .int 0, .int 0, .ref a9, .ref a10, .ref a11, .ref a12, .ref a13]))] sz) := by
  refine xm_of (QQ := QR (dC, dI) [(a0, .inr (4, [.int 1, .int 0, .ref a1, .ref a2, .ref a3, .ref a4, .int 0, .ref a5, .ref a6, .ref a7, .ref a8, .int 0, .int 0, .int 0, .int 0, .ref a9, .ref a10, .ref a11, .ref a12, .ref a13]))] (some (.int 0))) (by decide +kernel) (Nat.le_of_ble_eq_true rfl) ?_
  intro p e s m below meth c A ls hx hb hr hml hown hts hlocks hin hK hP hD hE hA hS hl
  have hown : s.vm.findClass RX4 = some m.cls := hown
  have hl : lv_has ls 2 [(0, .ref a0), (1, .int x0)] := hl
  have hP : va_P (dC, dI) vwCl [(a0, .inr (4, [.int 0, .int 0, .ref a1, .ref a2, .ref a3, .ref a4, .int 0, .ref a5, .ref a6, .ref a7, .ref a8, .int 0, .int 0, .int 0, .int 0, .ref a9, .ref a10, .ref a11, .ref a12, .ref a13]))] s.heap := hP
  refine lv_aload_n hx hb dX4_isInstant_0 rfl (lv_at hl 0 rfl) ?_
  refine lv_iload_n hx hb dX4_isInstant_1 rfl (lv_at hl 1 rfl) ?_
  refine lv_iconst (v := 0) hx hb dX4_isInstant_2 (by decide) ?_
  refine lv_iconst (v := 1) hx hb dX4_isInstant_3 (by decide) ?_
  refine xc_V (b := a0) (wc := [(a0, .inr (4, [.int 0, .int 0, .ref a1, .ref a2, .ref a3, .ref a4, .int 0, .ref a5, .ref a6, .ref a7, .ref a8, .int 0, .int 0, .int 0, .int 0, .ref a9, .ref a10, .ref a11, .ref a12, .ref a13]))]) (As := [.int x0, .int 0, .int 1]) (rest := []) (wr := []) ⟨hx, hb, hml, hown, hts⟩ (kX4_asks__1 l hfl dC dI cI cZ cJ cD a0 a1 a2 a3 a4 a5 a6 a7 a8 a9 a10 a11 a12 a13 x0 _) q881 okX4_asks_ hP hD hK hE hS hA [0] [] rfl rfl (by decide) (by decide) (by decide) (ci := 4) rfl 0 rfl rfl rfl hl.1 rfl (Nat.le_of_ble_eq_true rfl) ⟨rfl, rfl⟩ ⟨Nat.le_of_ble_eq_true rfl, Nat.le_of_ble_eq_true rfl⟩ ⟨Nat.le_of_ble_eq_true rfl, Nat.le_of_ble_eq_true rfl⟩ dX4_isInstant_4 (fun H locs hP hD hS => ?_)
  have hP : va_P (dC, dI) vwCl [(a0, .inr (4, [.int 1, .int 0, .ref a1, .ref a2, .ref a3, .ref a4, .int 0, .ref a5, .ref a6, .ref a7, .ref a8, .int 0, .int 0, .int 0, .int 0, .ref a9, .ref a10, .ref a11, .ref a12, .ref a13]))] H := hP
  have hD : va_D A [(a0, .inr (4, [.int 1, .int 0, .ref a1, .ref a2, .ref a3, .ref a4, .int 0, .ref a5, .ref a6, .ref a7, .ref a8, .int 0, .int 0, .int 0, .int 0, .ref a9, .ref a10, .ref a11, .ref a12, .ref a13]))] := hD
  refine W.eq (g2 := F0 m 7 ls [.int 0]) rfl ?_
  refine lv_if_eq (tgt := 25) hx hb dX4_isInstant_7 (by decide) (fun _ => ?_) (fun h9 => absurd (by decide) h9)
  refine lv_iconst (v := 0) hx hb dX4_isInstant_25 (by decide) ?_
  exact xr_z hx hb hr hlocks hP hD hS [0] rfl (by decide) rfl (Nat.le_of_ble_eq_true rfl) (Nat.le_of_ble_eq_true rfl) dX4_isInstant_26
set_option maxHeartbeats 4000000 in
set_option maxRecDepth 100000 in
theorem kX3_successorCount_0 (l : Launch) (hfl : l.stackTraces = false) (dC : Nat → ClassId) (dI : Nat → Nat → Nat) (cI cZ cJ cD : ClassId) (a0 a1 a2 a3 : Nat) (x0 : Int32) (sz : Nat) : vx_Met l yX3_successorCount (ws_ yX3_successorCount cX3_successorCount 2 (some .int)) (rm_ 2 1 6) (PC (dC, dI) (tyL cI cZ cJ cD) [(a0, .inr (3, [.ref a1, .ref a2, .ref a3, .int 0]))] sz [.ref a0, .int x0]) QN (XR nISE (va_A [(a0, .inr (3, [.ref a1, .ref a2, .ref a3, .int 0]))] sz)) 1 6 (va_A [(a0, .inr (3, [.ref a1, .ref a2, .ref a3, .int 0]))] sz) := by
  refine xm_x (cls := nISE) (by decide +kernel) (Nat.le_of_ble_eq_true rfl) ?_
  intro p e s m below meth c A ls hx hb hr hml hown hts hlocks hno hK hP hD hE hA hS hl
  have hown : s.vm.findClass RX3 = some m.cls := hown
  have hl : lv_has ls 2 [(0, .ref a0), (1, .int x0)] := hl
  have hP : va_P (dC, dI) vwCl [(a0, .inr (3, [.ref a1, .ref a2, .ref a3, .int 0]))] s.heap := hP
  refine lv_aload_n hx hb dX3_successorCount_0 rfl (lv_at hl 0 rfl) ?_
  refine xx_V (b := a0) (wc := [(a0, .inr (3, [.ref a1, .ref a2, .ref a3, .int 0]))]) (As := []) (rest := []) (wr := []) ⟨hx, hb, hml, hown, hts⟩ (kX3_requireExploration_0 l hfl dC dI cI cZ cJ cD a0 a1 a2 a3 _) q556 okX3_requireExploration hP hD hK hE hS hA [0] [] rfl rfl (by decide) (by decide) (by decide) (ci := 3) rfl 0 rfl rfl rfl hl.1 rfl (Nat.le_of_ble_eq_true rfl) ⟨rfl, rfl⟩ ⟨Nat.le_of_ble_eq_true rfl, Nat.le_of_ble_eq_true rfl⟩ ⟨Nat.le_of_ble_eq_true rfl, Nat.le_of_ble_eq_true rfl⟩ dX3_successorCount_1 (fun q9 ce H locs h1 h2 h3 hP hD hS => ?_)
  exact xx_out hno hlocks h1 h2 h3 hS (Nat.le_of_ble_eq_true rfl) (Nat.le_of_ble_eq_true rfl)
set_option maxHeartbeats 4000000 in
set_option maxRecDepth 100000 in
theorem kL_successorCount_0 (l : Launch) (hfl : l.stackTraces = false) (dC : Nat → ClassId) (dI : Nat → Nat → Nat) (cI cZ cJ cD : ClassId) (a0 a1 a2 a3 a4 : Nat) (x0 : Int32) (sz : Nat) : Met l yL_successorCount (wh_ yL_successorCount cL_successorCount 4 (some .int) [(0, 9, 12, 15), (0, 9, 15, 21)]) (rm_ 3 1 6) (PC (dC, dI) (tyL cI cZ cJ cD) [(a0, .inr (3, [.ref a2, .ref a3, .ref a4, .int 0]))] sz [.ref a0, .int x0, .ref a1]) (QR (dC, dI) [] (some (.int 1)) (va_A [(a0, .inr (3, [.ref a2, .ref a3, .ref a4, .int 0]))] sz)) 1 6 (va_A [(a0, .inr (3, [.ref a2, .ref a3, .ref a4, .int 0]))] sz) := by
  refine xm_h (QQ := QR (dC, dI) [] (some (.int 1))) (by decide +kernel) (Nat.le_of_ble_eq_true rfl) ?_
  intro p e s m below meth c A ls hx hb hr hml hown hts hlocks htab hK hP hD hE hA hS hl
  have hown : s.vm.findClass RL = some m.cls := hown
  have hl : lv_has ls 4 [(0, .ref a0), (1, .int x0), (2, .ref a1)] := hl
  have hP : va_P (dC, dI) vwCl [(a0, .inr (3, [.ref a2, .ref a3, .ref a4, .int 0]))] s.heap := hP
  refine lv_aload_n hx hb dL_successorCount_0 rfl (lv_at hl 2 rfl) ?_
  refine lv_iconst (v := 0) hx hb dL_successorCount_1 (by decide) ?_
  refine lv_aload_n hx hb dL_successorCount_2 rfl (lv_at hl 0 rfl) ?_
  refine lv_iload_n hx hb dL_successorCount_3 rfl (lv_at hl 1 rfl) ?_
  refine xx_V (b := a0) (wc := [(a0, .inr (3, [.ref a2, .ref a3, .ref a4, .int 0]))]) (As := [.int x0]) (rest := [.int 0, .ref a1]) (wr := []) ⟨hx, hb, hml, hown, hts⟩ (kX3_successorCount_0 l hfl dC dI cI cZ cJ cD a0 a2 a3 a4 x0 _) q597 okX3_successorCount hP hD hK hE hS hA [0] [] rfl rfl (by decide) (by decide) (by decide) (ci := 3) rfl 0 rfl rfl rfl hl.1 rfl (Nat.le_of_ble_eq_true rfl) ⟨rfl, rfl⟩ ⟨Nat.le_of_ble_eq_true rfl, Nat.le_of_ble_eq_true rfl⟩ ⟨Nat.le_of_ble_eq_true rfl, Nat.le_of_ble_eq_true rfl⟩ dL_successorCount_4 (fun q9 ce H locs h1 h2 h3 hP hD hS => ?_)
  refine vx_catch (own := RL) (name := nISE) (E := nISE) hown [] ⟨0, 9, 12, 15⟩ [⟨0, 9, 15, 21⟩] htab (fun z hz => by cases hz) (by decide) (by decide) (hts _ q392) (hE.2.2.cISE.use rfl) h1 h2 h3 ?_
  refine W.eq (g2 := F0 m 12 ls [.ref q9]) rfl ?_
  refine lv_astore_n (lv' := [(3, .ref q9), (0, .ref a0), (1, .int x0), (2, .ref a1)]) hx hb dL_successorCount_12 rfl hl (by decide) rfl (fun ls hl => ?_)
  refine lv_iconst (v := 1) hx hb dL_successorCount_13 (by decide) ?_
  exact xr_i hx hb hr hlocks hP hD hS [] rfl (by decide) (Nat.le_of_ble_eq_true rfl) (Nat.le_of_ble_eq_true rfl) dL_successorCount_14
set_option maxHeartbeats 4000000 in
set_option maxRecDepth 100000 in
theorem kX4_successorCount_0 (l : Launch) (hfl : l.stackTraces = false) (dC : Nat → ClassId) (dI : Nat → Nat → Nat) (cI cZ cJ cD : ClassId) (a0 a1 a2 a3 a4 a5 a6 a7 a8 a9 a10 a11 a12 a13 : Nat) (x0 : Int32) (sz : Nat) : Met l yX4_successorCount (ws_ yX4_successorCount cX4_successorCount 2 (some .int)) (rm_ 2 0 0) (PC (dC, dI) (tyL cI cZ cJ cD) [(a0, .inr (4, [.int 0, .int 0, .ref a1, .ref a2, .ref a3, .ref a4, .int 0, .ref a5, .ref a6, .ref a7, .ref a8, .int 0, .int 0, .int 0, .int 0, .ref a9, .ref a10, .ref a11, .ref a12, .ref a13]))] sz [.ref a0, .int x0]) (QR (dC, dI) [(a0, .inr (4, [.int 1, .int 0, .ref a1, .ref a2, .ref a3, .ref a4, .int 0, .ref a5, .ref a6, .ref a7, .ref a8, .int 0, .int 0, .int 0, .int 0, .ref a9, .ref a10, .ref a11, .ref a12, .ref a13]))] (some (.int 0)) (va_A [(a0, .inr (4, [.int 0, .int 0, .ref a1, .ref a2, .ref a3, .ref a4, .int 0, .ref a5, .ref a6, .ref a7, .ref a8, .int 0, .int 0, .int 0, .int 0, .ref a9, .ref a10, .ref a11, .ref a12, .ref a13]))] sz)) 0 0 (va_A [(a0, .inr (4, [.int 0, .int 0, .ref a1, .ref a2, .ref a3, .ref a4, .int 0, .ref a5, .ref a6, .ref a7, .ref a8, .int 0, .int 0, .int 0, .int 0, .ref a9, .ref a10, .ref a11, .ref a12, .ref a13]))] sz) := by
  refine xm_of (QQ := QR (dC, dI) [(a0, .inr (4, [.int 1, .int 0, .ref a1, .ref a2, .ref a3, .ref a4, .int 0, .ref a5, .ref a6, .ref a7, .ref a8, .int 0, .int 0, .int 0, .int 0, .ref a9, .ref a10, .ref a11, .ref a12, .ref a13]))] (some (.int 0))) (by decide +kernel) (Nat.le_of_ble_eq_true rfl) ?_
  intro p e s m below meth c A ls hx hb hr hml hown hts hlocks hin hK hP hD hE hA hS hl
  have hown : s.vm.findClass RX4 = some m.cls := hown
  have hl : lv_has ls 2 [(0, .ref a0), (1, .int x0)] := hl
  have hP : va_P (dC, dI) vwCl [(a0, .inr (4, [.int 0, .int 0, .ref a1, .ref a2, .ref a3, .ref a4, .int 0, .ref a5, .ref a6, .ref a7, .ref a8, .int 0, .int 0, .int 0, .int 0, .ref a9, .ref a10, .ref a11, .ref a12, .ref a13]))] s.heap := hP
  refine lv_aload_n hx hb dX4_successorCount_0 rfl (lv_at hl 0 rfl) ?_
  refine lv_iload_n hx hb dX4_successorCount_1 rfl (lv_at hl 1 rfl) ?_
  refine lv_iconst (v := 0) hx hb dX4_successorCount_2 (by decide) ?_
  refine lv_iconst (v := 1) hx hb dX4_successorCount_3 (by decide) ?_
  refine xc_V (b := a0) (wc := [(a0, .inr (4, [.int 0, .int 0, .ref a1, .ref a2, .ref a3, .ref a4, .int 0, .ref a5, .ref a6, .ref a7, .ref a8, .int 0, .int 0, .int 0, .int 0, .ref a9, .ref a10, .ref a11, .ref a12, .ref a13]))]) (As := [.int x0, .int 0, .int 1]) (rest := []) (wr := []) ⟨hx, hb, hml, hown, hts⟩ (kX4_asks__1 l hfl dC dI cI cZ cJ cD a0 a1 a2 a3 a4 a5 a6 a7 a8 a9 a10 a11 a12 a13 x0 _) q881 okX4_asks_ hP hD hK hE hS hA [0] [] rfl rfl (by decide) (by decide) (by decide) (ci := 4) rfl 0 rfl rfl rfl hl.1 rfl (Nat.le_of_ble_eq_true rfl) ⟨rfl, rfl⟩ ⟨Nat.le_of_ble_eq_true rfl, Nat.le_of_ble_eq_true rfl⟩ ⟨Nat.le_of_ble_eq_true rfl, Nat.le_of_ble_eq_true rfl⟩ dX4_successorCount_4 (fun H locs hP hD hS => ?_)
  have hP : va_P (dC, dI) vwCl [(a0, .inr (4, [.int 1, .int 0, .ref a1, .ref a2, .ref a3, .ref a4, .int 0, .ref a5, .ref a6, .ref a7, .ref a8, .int 0, .int 0, .int 0, .int 0, .ref a9, .ref a10, .ref a11, .ref a12, .ref a13]))] H := hP
  have hD : va_D A [(a0, .inr (4, [.int 1, .int 0, .ref a1, .ref a2, .ref a3, .ref a4, .int 0, .ref a5, .ref a6, .ref a7, .ref a8, .int 0, .int 0, .int 0, .int 0, .ref a9, .ref a10, .ref a11, .ref a12, .ref a13]))] := hD
  refine W.eq (g2 := F0 m 7 ls [.int 0]) rfl ?_
  refine lv_if_eq (tgt := 18) hx hb dX4_successorCount_7 (by decide) (fun _ => ?_) (fun h9 => absurd (by decide) h9)
  refine lv_iconst (v := 0) hx hb dX4_successorCount_18 (by decide) ?_
  exact xr_i hx hb hr hlocks hP hD hS [0] rfl (by decide) (Nat.le_of_ble_eq_true rfl) (Nat.le_of_ble_eq_true rfl) dX4_successorCount_19
set_option maxHeartbeats 4000000 in
set_option maxRecDepth 100000 in
theorem kX3_successor_0 (l : Launch) (hfl : l.stackTraces = false) (dC : Nat → ClassId) (dI : Nat → Nat → Nat) (cI cZ cJ cD : ClassId) (a0 a1 a2 a3 : Nat) (x0 x1 : Int32) (sz : Nat) : vx_Met l yX3_successor (ws_ yX3_successor cX3_successor 3 (some .int)) (rm_ 2 1 6) (PC (dC, dI) (tyL cI cZ cJ cD) [(a0, .inr (3, [.ref a1, .ref a2, .ref a3, .int 0]))] sz [.ref a0, .int x0, .int x1]) QN (XR nISE (va_A [(a0, .inr (3, [.ref a1, .ref a2, .ref a3, .int 0]))] sz)) 1 6 (va_A [(a0, .inr (3, [.ref a1, .ref a2, .ref a3, .int 0]))] sz) := by
  refine xm_x (cls := nISE) (by decide +kernel) (Nat.le_of_ble_eq_true rfl) ?_
  intro p e s m below meth c A ls hx hb hr hml hown hts hlocks hno hK hP hD hE hA hS hl
  have hown : s.vm.findClass RX3 = some m.cls := hown
  have hl : lv_has ls 3 [(0, .ref a0), (1, .int x0), (2, .int x1)] := hl
  have hP : va_P (dC, dI) vwCl [(a0, .inr (3, [.ref a1, .ref a2, .ref a3, .int 0]))] s.heap := hP
  refine lv_aload_n hx hb dX3_successor_0 rfl (lv_at hl 0 rfl) ?_
  refine xx_V (b := a0) (wc := [(a0, .inr (3, [.ref a1, .ref a2, .ref a3, .int 0]))]) (As := []) (rest := []) (wr := []) ⟨hx, hb, hml, hown, hts⟩ (kX3_requireExploration_0 l hfl dC dI cI cZ cJ cD a0 a1 a2 a3 _) q556 okX3_requireExploration hP hD hK hE hS hA [0] [] rfl rfl (by decide) (by decide) (by decide) (ci := 3) rfl 0 rfl rfl rfl hl.1 rfl (Nat.le_of_ble_eq_true rfl) ⟨rfl, rfl⟩ ⟨Nat.le_of_ble_eq_true rfl, Nat.le_of_ble_eq_true rfl⟩ ⟨Nat.le_of_ble_eq_true rfl, Nat.le_of_ble_eq_true rfl⟩ dX3_successor_1 (fun q9 ce H locs h1 h2 h3 hP hD hS => ?_)
  exact xx_out hno hlocks h1 h2 h3 hS (Nat.le_of_ble_eq_true rfl) (Nat.le_of_ble_eq_true rfl)
set_option maxHeartbeats 4000000 in
set_option maxRecDepth 100000 in
theorem kL_successor_0 (l : Launch) (hfl : l.stackTraces = false) (dC : Nat → ClassId) (dI : Nat → Nat → Nat) (cI cZ cJ cD : ClassId) (a0 a1 a2 a3 a4 : Nat) (x0 x1 : Int32) (sz : Nat) : Met l yL_successor (wh_ yL_successor cL_successor 5 (some .int) [(0, 10, 13, 15), (0, 10, 17, 21)]) (rm_ 3 1 6) (PC (dC, dI) (tyL cI cZ cJ cD) [(a0, .inr (3, [.ref a2, .ref a3, .ref a4, .int 0]))] sz [.ref a0, .int x0, .int x1, .ref a1]) (QR (dC, dI) [] (some (.int 1)) (va_A [(a0, .inr (3, [.ref a2, .ref a3, .ref a4, .int 0]))] sz)) 1 6 (va_A [(a0, .inr (3, [.ref a2, .ref a3, .ref a4, .int 0]))] sz) := by
  refine xm_h (QQ := QR (dC, dI) [] (some (.int 1))) (by decide +kernel) (Nat.le_of_ble_eq_true rfl) ?_
  intro p e s m below meth c A ls hx hb hr hml hown hts hlocks htab hK hP hD hE hA hS hl
  have hown : s.vm.findClass RL = some m.cls := hown
  have hl : lv_has ls 5 [(0, .ref a0), (1, .int x0), (2, .int x1), (3, .ref a1)] := hl
  have hP : va_P (dC, dI) vwCl [(a0, .inr (3, [.ref a2, .ref a3, .ref a4, .int 0]))] s.heap := hP
  refine lv_aload_n hx hb dL_successor_0 rfl (lv_at hl 3 rfl) ?_
  refine lv_iconst (v := 0) hx hb dL_successor_1 (by decide) ?_
  refine lv_aload_n hx hb dL_successor_2 rfl (lv_at hl 0 rfl) ?_
  refine lv_iload_n hx hb dL_successor_3 rfl (lv_at hl 1 rfl) ?_
  refine lv_iload_n hx hb dL_successor_4 rfl (lv_at hl 2 rfl) ?_
  refine xx_V (b := a0) (wc := [(a0, .inr (3, [.ref a2, .ref a3, .ref a4, .int 0]))]) (As := [.int x0, .int x1]) (rest := [.int 0, .ref a1]) (wr := []) ⟨hx, hb, hml, hown, hts⟩ (kX3_successor_0 l hfl dC dI cI cZ cJ cD a0 a2 a3 a4 x0 x1 _) q604 okX3_successor hP hD hK hE hS hA [0] [] rfl rfl (by decide) (by decide) (by decide) (ci := 3) rfl 0 rfl rfl rfl hl.1 rfl (Nat.le_of_ble_eq_true rfl) ⟨rfl, rfl⟩ ⟨Nat.le_of_ble_eq_true rfl, Nat.le_of_ble_eq_true rfl⟩ ⟨Nat.le_of_ble_eq_true rfl, Nat.le_of_ble_eq_true rfl⟩ dL_successor_5 (fun q9 ce H locs h1 h2 h3 hP hD hS => ?_)
  refine vx_catch (own := RL) (name := nISE) (E := nISE) hown [] ⟨0, 10, 13, 15⟩ [⟨0, 10, 17, 21⟩] htab (fun z hz => by cases hz) (by decide) (by decide) (hts _ q392) (hE.2.2.cISE.use rfl) h1 h2 h3 ?_
  refine W.eq (g2 := F0 m 13 ls [.ref q9]) rfl ?_
  refine lv_astore (lv' := [(4, .ref q9), (0, .ref a0), (1, .int x0), (2, .int x1), (3, .ref a1)]) hx hb dL_successor_13 hl (by decide) rfl (fun ls hl => ?_)
  refine lv_iconst (v := 1) hx hb dL_successor_15 (by decide) ?_
  exact xr_i hx hb hr hlocks hP hD hS [] rfl (by decide) (Nat.le_of_ble_eq_true rfl) (Nat.le_of_ble_eq_true rfl) dL_successor_16
set_option maxHeartbeats 4000000 in
set_option maxRecDepth 100000 in
theorem kX4_successor_0 (l : Launch) (hfl : l.stackTraces = false) (dC : Nat → ClassId) (dI : Nat → Nat → Nat) (cI cZ cJ cD : ClassId) (a0 a1 a2 a3 a4 a5 a6 a7 a8 a9 a10 a11 a12 a13 : Nat) (x0 x1 : Int32) (sz : Nat) : Met l yX4_successor (ws_ yX4_successor cX4_successor 5 (some .int)) (rm_ 2 0 0) (PC (dC, dI) (tyL cI cZ cJ cD) [(a0, .inr (4, [.int 0, .int 0, .ref a1, .ref a2, .ref a3, .ref a4, .int 0, .ref a5, .ref a6, .ref a7, .ref a8, .int 0, .int 0, .int 0, .int 0, .ref a9, .ref a10, .ref a11, .ref a12, .ref a13]))] sz [.ref a0, .int x0, .int x1]) (QR (dC, dI) [(a0, .inr (4, [.int 1, .int 0, .ref a1, .ref a2, .ref a3, .ref a4, .int 0, .ref a5, .ref a6, .ref a7, .ref a8, .int 0, .int 0, .int 0, .int 0, .ref a9, .ref a10, .ref a11, .ref a12, .ref a13]))] (some (.int 0)) (va_A [(a0, .inr (4, [.int 0, .int 0, .ref a1, .ref a2, .ref a3, .ref a4, .int 0, .ref a5, .ref a6, .ref a7, .ref a8, .int 0, .int 0, .int 0, .int 0, .ref a9, .ref a10, .ref a11, .ref a12, .ref a13]))] sz)) 0 0 (va_A [(a0, .inr (4, [.int 0, .int 0, .ref a1, .ref a2, .ref a3, .ref a4, .int 0, .ref a5, .ref a6, .ref a7, .ref a8, .int 0, .int 0, .int 0, .int 0, .ref a9, .ref a10, .ref a11, .ref a12, .ref a13]))] sz) := by
  refine xm_of (QQ := QR (dC, dI) [(a0, .inr (4, [.int 1, .int 0, .ref a1, .ref a2, .ref a3, .ref a4, .int 0, .ref a5, .ref a6, .ref a7, .ref a8, .int 0, .int 0, .int 0, .int 0, .ref a9, .ref a10, .ref a11, .ref a12, .ref a13]))] (some (.int 0))) (by decide +kernel) (Nat.le_of_ble_eq_true rfl) ?_
  intro p e s m below meth c A ls hx hb hr hml hown hts hlocks hin hK hP hD hE hA hS hl
  have hown : s.vm.findClass RX4 = some m.cls := hown
  have hl : lv_has ls 5 [(0, .ref a0), (1, .int x0), (2, .int x1)] := hl
  have hP : va_P (dC, dI) vwCl [(a0, .inr (4, [.int 0, .int 0, .ref a1, .ref a2, .ref a3, .ref a4, .int 0, .ref a5, .ref a6, .ref a7, .ref a8, .int 0, .int 0, .int 0, .int 0, .ref a9, .ref a10, .ref a11, .ref a12, .ref a13]))] s.heap := hP
  refine lv_aload_n hx hb dX4_successor_0 rfl (lv_at hl 0 rfl) ?_
  refine lv_iload_n hx hb dX4_successor_1 rfl (lv_at hl 1 rfl) ?_
  refine lv_iconst (v := 0) hx hb dX4_successor_2 (by decide) ?_
  refine lv_iconst (v := 1) hx hb dX4_successor_3 (by decide) ?_
  refine xc_V (b := a0) (wc := [(a0, .inr (4, [.int 0, .int 0, .ref a1, .ref a2, .ref a3, .ref a4, .int 0, .ref a5, .ref a6, .ref a7, .ref a8, .int 0, .int 0, .int 0, .int 0, .ref a9, .ref a10, .ref a11, .ref a12, .ref a13]))]) (As := [.int x0, .int 0, .int 1]) (rest := []) (wr := []) ⟨hx, hb, hml, hown, hts⟩ (kX4_asks__1 l hfl dC dI cI cZ cJ cD a0 a1 a2 a3 a4 a5 a6 a7 a8 a9 a10 a11 a12 a13 x0 _) q881 okX4_asks_ hP hD hK hE hS hA [0] [] rfl rfl (by decide) (by decide) (by decide) (ci := 4) rfl 0 rfl rfl rfl hl.1 rfl (Nat.le_of_ble_eq_true rfl) ⟨rfl, rfl⟩ ⟨Nat.le_of_ble_eq_true rfl, Nat.le_of_ble_eq_true rfl⟩ ⟨Nat.le_of_ble_eq_true rfl, Nat.le_of_ble_eq_true rfl⟩ dX4_successor_4 (fun H locs hP hD hS => ?_)
  have hP : va_P (dC, dI) vwCl [(a0, .inr (4, [.int 1, .int 0, .ref a1, .ref a2, .ref a3, .ref a4, .int 0, .ref a5, .ref a6, .ref a7, .ref a8, .int 0, .int 0, .int 0, .int 0, .ref a9, .ref a10, .ref a11, .ref a12, .ref a13]))] H := hP
  have hD : va_D A [(a0, .inr (4, [.int 1, .int 0, .ref a1, .ref a2, .ref a3, .ref a4, .int 0, .ref a5, .ref a6, .ref a7, .ref a8, .int 0, .int 0, .int 0, .int 0, .ref a9, .ref a10, .ref a11, .ref a12, .ref a13]))] := hD
  refine W.eq (g2 := F0 m 7 ls [.int 0]) rfl ?_
  refine lv_if_ne (tgt := 12) hx hb dX4_successor_7 (by decide) (fun h9 => absurd (by decide) h9) (fun _ => ?_)
  refine lv_iconst (v := 0) hx hb dX4_successor_10 (by decide) ?_
  exact xr_i hx hb hr hlocks hP hD hS [0] rfl (by decide) (Nat.le_of_ble_eq_true rfl) (Nat.le_of_ble_eq_true rfl) dX4_successor_11
set_option maxHeartbeats 4000000 in
set_option maxRecDepth 100000 in
theorem kX3_distance_0 (l : Launch) (hfl : l.stackTraces = false) (dC : Nat → ClassId) (dI : Nat → Nat → Nat) (cI cZ cJ cD : ClassId) (a0 a1 a2 a3 : Nat) (x0 : Int32) (sz : Nat) : vx_Met l yX3_distance (ws_ yX3_distance cX3_distance 2 (some .int)) (rm_ 2 1 6) (PC (dC, dI) (tyL cI cZ cJ cD) [(a0, .inr (3, [.ref a1, .ref a2, .ref a3, .int 0]))] sz [.ref a0, .int x0]) QN (XR nISE (va_A [(a0, .inr (3, [.ref a1, .ref a2, .ref a3, .int 0]))] sz)) 1 6 (va_A [(a0, .inr (3, [.ref a1, .ref a2, .ref a3, .int 0]))] sz) := by
  refine xm_x (cls := nISE) (by decide +kernel) (Nat.le_of_ble_eq_true rfl) ?_
  intro p e s m below meth c A ls hx hb hr hml hown hts hlocks hno hK hP hD hE hA hS hl
  have hown : s.vm.findClass RX3 = some m.cls := hown
  have hl : lv_has ls 2 [(0, .ref a0), (1, .int x0)] := hl
  have hP : va_P (dC, dI) vwCl [(a0, .inr (3, [.ref a1, .ref a2, .ref a3, .int 0]))] s.heap := hP
  refine lv_aload_n hx hb dX3_distance_0 rfl (lv_at hl 0 rfl) ?_
  refine xx_V (b := a0) (wc := [(a0, .inr (3, [.ref a1, .ref a2, .ref a3, .int 0]))]) (As := []) (rest := []) (wr := []) ⟨hx, hb, hml, hown, hts⟩ (kX3_requireExploration_0 l hfl dC dI cI cZ cJ cD a0 a1 a2 a3 _) q556 okX3_requireExploration hP hD hK hE hS hA [0] [] rfl rfl (by decide) (by decide) (by decide) (ci := 3) rfl 0 rfl rfl rfl hl.1 rfl (Nat.le_of_ble_eq_true rfl) ⟨rfl, rfl⟩ ⟨Nat.le_of_ble_eq_true rfl, Nat.le_of_ble_eq_true rfl⟩ ⟨Nat.le_of_ble_eq_true rfl, Nat.le_of_ble_eq_true rfl⟩ dX3_distance_1 (fun q9 ce H locs h1 h2 h3 hP hD hS => ?_)
  exact xx_out hno hlocks h1 h2 h3 hS (Nat.le_of_ble_eq_true rfl) (Nat.le_of_ble_eq_true rfl)
set_option maxHeartbeats 4000000 in
set_option maxRecDepth 100000 in
theorem kL_distance_0 (l : Launch) (hfl : l.stackTraces = false) (dC : Nat → ClassId) (dI : Nat → Nat → Nat) (cI cZ cJ cD : ClassId) (a0 a1 a2 a3 a4 : Nat) (x0 : Int32) (sz : Nat) : Met l yL_distance (wh_ yL_distance cL_distance 4 (some .int) [(0, 9, 12, 15), (0, 9, 15, 21)]) (rm_ 3 1 6) (PC (dC, dI) (tyL cI cZ cJ cD) [(a0, .inr (3, [.ref a2, .ref a3, .ref a4, .int 0]))] sz [.ref a0, .int x0, .ref a1]) (QR (dC, dI) [] (some (.int 1)) (va_A [(a0, .inr (3, [.ref a2, .ref a3, .ref a4, .int 0]))] sz)) 1 6 (va_A [(a0, .inr (3, [.ref a2, .ref a3, .ref a4, .int 0]))] sz) := by
  refine xm_h (QQ := QR (dC, dI) [] (some (.int 1))) (by decide +kernel) (Nat.le_of_ble_eq_true rfl) ?_
  intro p e s m below meth c A ls hx hb hr hml hown hts hlocks htab hK hP hD hE hA hS hl
  have hown : s.vm.findClass RL = some m.cls := hown
  have hl : lv_has ls 4 [(0, .ref a0), (1, .int x0), (2, .ref a1)] := hl
  have hP : va_P (dC, dI) vwCl [(a0, .inr (3, [.ref a2, .ref a3, .ref a4, .int 0]))] s.heap := hP
  refine lv_aload_n hx hb dL_distance_0 rfl (lv_at hl 2 rfl) ?_
  refine lv_iconst (v := 0) hx hb dL_distance_1 (by decide) ?_
  refine lv_aload_n hx hb dL_distance_2 rfl (lv_at hl 0 rfl) ?_
  refine lv_iload_n hx hb dL_distance_3 rfl (lv_at hl 1 rfl) ?_
  refine xx_V (b := a0) (wc := [(a0, .inr (3, [.ref a2, .ref a3, .ref a4, .int 0]))]) (As := [.int x0]) (rest := [.int 0, .ref a1]) (wr := []) ⟨hx, hb, hml, hown, hts⟩ (kX3_distance_0 l hfl dC dI cI cZ cJ cD a0 a2 a3 a4 x0 _) q612 okX3_distance hP hD hK hE hS hA [0] [] rfl rfl (by decide) (by decide) (by decide) (ci := 3) rfl 0 rfl rfl rfl hl.1 rfl (Nat.le_of_ble_eq_true rfl) ⟨rfl, rfl⟩ ⟨Nat.le_of_ble_eq_true rfl, Nat.le_of_ble_eq_true rfl⟩ ⟨Nat.le_of_ble_eq_true rfl, Nat.le_of_ble_eq_true rfl⟩ dL_distance_4 (fun q9 ce H locs h1 h2 h3 hP hD hS => ?_)
  refine vx_catch (own := RL) (name := nISE) (E := nISE) hown [] ⟨0, 9, 12, 15⟩ [⟨0, 9, 15, 21⟩] htab (fun z hz => by cases hz) (by decide) (by decide) (hts _ q392) (hE.2.2.cISE.use rfl) h1 h2 h3 ?_
  refine W.eq (g2 := F0 m 12 ls [.ref q9]) rfl ?_
  refine lv_astore_n (lv' := [(3, .ref q9), (0, .ref a0), (1, .int x0), (2, .ref a1)]) hx hb dL_distance_12 rfl hl (by decide) rfl (fun ls hl => ?_)
  refine lv_iconst (v := 1) hx hb dL_distance_13 (by decide) ?_
  exact xr_i hx hb hr hlocks hP hD hS [] rfl (by decide) (Nat.le_of_ble_eq_true rfl) (Nat.le_of_ble_eq_true rfl) dL_distance_14
set_option maxHeartbeats 4000000 in
set_option maxRecDepth 100000 in
theorem kX4_distance_0 (l : Launch) (hfl : l.stackTraces = false) (dC : Nat → ClassId) (dI : Nat → Nat → Nat) (cI cZ cJ cD : ClassId) (a0 a1 a2 a3 a4 a5 a6 a7 a8 a9 a10 a11 a12 a13 : Nat) (x0 : Int32) (sz : Nat) : Met l yX4_distance (ws_ yX4_distance cX4_distance 2 (some .int)) (rm_ 2 0 0) (PC (dC, dI) (tyL cI cZ cJ cD) [(a0, .inr (4, [.int 0, .int 0, .ref a1, .ref a2, .ref a3, .ref a4, .int 0, .ref a5, .ref a6, .ref a7, .ref a8, .int 0, .int 0, .int 0, .int 0, .ref a9, .ref a10, .ref a11, .ref a12, .ref a13]))] sz [.ref a0, .int x0]) (QR (dC, dI) [(a0, .inr (4, [.int 1, .int 0, .ref a1, .ref a2, .ref a3, .ref a4, .int 0, .ref a5, .ref a6, .ref a7, .ref a8, .int 0, .int 0, .int 0, .int 0, .ref a9, .ref a10, .ref a11, .ref a12, .ref a13]))] (some (.int 0)) (va_A [(a0, .inr (4, [.int 0, .int 0, .ref a1, .ref a2, .ref a3, .ref a4, .int 0, .ref a5, .ref a6, .ref a7, .ref a8, .int 0, .int 0, .int 0, .int 0, .ref a9, .ref a10, .ref a11, .ref a12, .ref a13]))] sz)) 0 0 (va_A [(a0, .inr (4, [.int 0, .int 0, .ref a1, .ref a2, .ref a3, .ref a4, .int 0, .ref a5, .ref a6, .ref a7, .ref a8, .int 0, .int 0, .int 0, .int 0, .ref a9, .ref a10, .ref a11, .ref a12, .ref a13]))] sz) := by
  refine xm_of (QQ := QR (dC, dI) [(a0, .inr (4, [.int 1, .int 0, .ref a1, .ref a2, .ref a3, .ref a4, .int 0, .ref a5, .ref a6, .ref a7, .ref a8, .int 0, .int 0, .int 0, .int 0, .ref a9, .ref a10, .ref a11, .ref a12, .ref a13]))] (some (.int 0))) (by decide +kernel) (Nat.le_of_ble_eq_true rfl) ?_
  intro p e s m below meth c A ls hx hb hr hml hown hts hlocks hin hK hP hD hE hA hS hl
  have hown : s.vm.findClass RX4 = some m.cls := hown
  have hl : lv_has ls 2 [(0, .ref a0), (1, .int x0)] := hl
  have hP : va_P (dC, dI) vwCl [(a0, .inr (4, [.int 0, .int 0, .ref a1, .ref a2, .ref a3, .ref a4, .int 0, .ref a5, .ref a6, .ref a7, .ref a8, .int 0, .int 0, .int 0, .int 0, .ref a9, .ref a10, .ref a11, .ref a12, .ref a13]))] s.heap := hP
  refine lv_aload_n hx hb dX4_distance_0 rfl (lv_at hl 0 rfl) ?_
  refine lv_iload_n hx hb dX4_distance_1 rfl (lv_at hl 1 rfl) ?_
  refine lv_iconst (v := 0) hx hb dX4_distance_2 (by decide) ?_
  refine lv_iconst (v := 1) hx hb dX4_distance_3 (by decide) ?_
  refine xc_V (b := a0) (wc := [(a0, .inr (4, [.int 0, .int 0, .ref a1, .ref a2, .ref a3, .ref a4, .int 0, .ref a5, .ref a6, .ref a7, .ref a8, .int 0, .int 0, .int 0, .int 0, .ref a9, .ref a10, .ref a11, .ref a12, .ref a13]))]) (As := [.int x0, .int 0, .int 1]) (rest := []) (wr := []) ⟨hx, hb, hml, hown, hts⟩ (kX4_asks__1 l hfl dC dI cI cZ cJ cD a0 a1 a2 a3 a4 a5 a6 a7 a8 a9 a10 a11 a12 a13 x0 _) q881 okX4_asks_ hP hD hK hE hS hA [0] [] rfl rfl (by decide) (by decide) (by decide) (ci := 4) rfl 0 rfl rfl rfl hl.1 rfl (Nat.le_of_ble_eq_true rfl) ⟨rfl, rfl⟩ ⟨Nat.le_of_ble_eq_true rfl, Nat.le_of_ble_eq_true rfl⟩ ⟨Nat.le_of_ble_eq_true rfl, Nat.le_of_ble_eq_true rfl⟩ dX4_distance_4 (fun H locs hP hD hS => ?_)
  have hP : va_P (dC, dI) vwCl [(a0, .inr (4, [.int 1, .int 0, .ref a1, .ref a2, .ref a3, .ref a4, .int 0, .ref a5, .ref a6, .ref a7, .ref a8, .int 0, .int 0, .int 0, .int 0, .ref a9, .ref a10, .ref a11, .ref a12, .ref a13]))] H := hP
  have hD : va_D A [(a0, .inr (4, [.int 1, .int 0, .ref a1, .ref a2, .ref a3, .ref a4, .int 0, .ref a5, .ref a6, .ref a7, .ref a8, .int 0, .int 0, .int 0, .int 0, .ref a9, .ref a10, .ref a11, .ref a12, .ref a13]))] := hD
  refine W.eq (g2 := F0 m 7 ls [.int 0]) rfl ?_
  refine lv_if_eq (tgt := 19) hx hb dX4_distance_7 (by decide) (fun _ => ?_) (fun h9 => absurd (by decide) h9)
  refine lv_iconst (v := 0) hx hb dX4_distance_19 (by decide) ?_
  exact xr_i hx hb hr hlocks hP hD hS [0] rfl (by decide) (Nat.le_of_ble_eq_true rfl) (Nat.le_of_ble_eq_true rfl) dX4_distance_20
set_option maxHeartbeats 4000000 in
set_option maxRecDepth 100000 in
theorem kX3_isAtRest_0 (l : Launch) (hfl : l.stackTraces = false) (dC : Nat → ClassId) (dI : Nat → Nat → Nat) (cI cZ cJ cD : ClassId) (a0 a1 a2 a3 : Nat) (x0 : Int32) (sz : Nat) : vx_Met l yX3_isAtRest (ws_ yX3_isAtRest cX3_isAtRest 2 (some .boolean)) (rm_ 2 1 6) (PC (dC, dI) (tyL cI cZ cJ cD) [(a0, .inr (3, [.ref a1, .ref a2, .ref a3, .int 0]))] sz [.ref a0, .int x0]) QN (XR nISE (va_A [(a0, .inr (3, [.ref a1, .ref a2, .ref a3, .int 0]))] sz)) 1 6 (va_A [(a0, .inr (3, [.ref a1, .ref a2, .ref a3, .int 0]))] sz) := by
  refine xm_x (cls := nISE) (by decide +kernel) (Nat.le_of_ble_eq_true rfl) ?_
  intro p e s m below meth c A ls hx hb hr hml hown hts hlocks hno hK hP hD hE hA hS hl
  have hown : s.vm.findClass RX3 = some m.cls := hown
  have hl : lv_has ls 2 [(0, .ref a0), (1, .int x0)] := hl
  have hP : va_P (dC, dI) vwCl [(a0, .inr (3, [.ref a1, .ref a2, .ref a3, .int 0]))] s.heap := hP
  refine lv_aload_n hx hb dX3_isAtRest_0 rfl (lv_at hl 0 rfl) ?_
  refine xx_V (b := a0) (wc := [(a0, .inr (3, [.ref a1, .ref a2, .ref a3, .int 0]))]) (As := []) (rest := []) (wr := []) ⟨hx, hb, hml, hown, hts⟩ (kX3_requireExploration_0 l hfl dC dI cI cZ cJ cD a0 a1 a2 a3 _) q556 okX3_requireExploration hP hD hK hE hS hA [0] [] rfl rfl (by decide) (by decide) (by decide) (ci := 3) rfl 0 rfl rfl rfl hl.1 rfl (Nat.le_of_ble_eq_true rfl) ⟨rfl, rfl⟩ ⟨Nat.le_of_ble_eq_true rfl, Nat.le_of_ble_eq_true rfl⟩ ⟨Nat.le_of_ble_eq_true rfl, Nat.le_of_ble_eq_true rfl⟩ dX3_isAtRest_1 (fun q9 ce H locs h1 h2 h3 hP hD hS => ?_)
  exact xx_out hno hlocks h1 h2 h3 hS (Nat.le_of_ble_eq_true rfl) (Nat.le_of_ble_eq_true rfl)
set_option maxHeartbeats 4000000 in
set_option maxRecDepth 100000 in
theorem kL_isAtRest_0 (l : Launch) (hfl : l.stackTraces = false) (dC : Nat → ClassId) (dI : Nat → Nat → Nat) (cI cZ cJ cD : ClassId) (a0 a1 a2 a3 a4 : Nat) (x0 : Int32) (sz : Nat) : Met l yL_isAtRest (wh_ yL_isAtRest cL_isAtRest 4 (some .int) [(0, 16, 19, 15), (0, 16, 22, 21)]) (rm_ 3 1 6) (PC (dC, dI) (tyL cI cZ cJ cD) [(a0, .inr (3, [.ref a2, .ref a3, .ref a4, .int 0]))] sz [.ref a0, .int x0, .ref a1]) (QR (dC, dI) [] (some (.int 1)) (va_A [(a0, .inr (3, [.ref a2, .ref a3, .ref a4, .int 0]))] sz)) 1 6 (va_A [(a0, .inr (3, [.ref a2, .ref a3, .ref a4, .int 0]))] sz) := by
  refine xm_h (QQ := QR (dC, dI) [] (some (.int 1))) (by decide +kernel) (Nat.le_of_ble_eq_true rfl) ?_
  intro p e s m below meth c A ls hx hb hr hml hown hts hlocks htab hK hP hD hE hA hS hl
  have hown : s.vm.findClass RL = some m.cls := hown
  have hl : lv_has ls 4 [(0, .ref a0), (1, .int x0), (2, .ref a1)] := hl
  have hP : va_P (dC, dI) vwCl [(a0, .inr (3, [.ref a2, .ref a3, .ref a4, .int 0]))] s.heap := hP
  refine lv_aload_n hx hb dL_isAtRest_0 rfl (lv_at hl 2 rfl) ?_
  refine lv_iconst (v := 0) hx hb dL_isAtRest_1 (by decide) ?_
  refine lv_aload_n hx hb dL_isAtRest_2 rfl (lv_at hl 0 rfl) ?_
  refine lv_iload_n hx hb dL_isAtRest_3 rfl (lv_at hl 1 rfl) ?_
  refine xx_V (b := a0) (wc := [(a0, .inr (3, [.ref a2, .ref a3, .ref a4, .int 0]))]) (As := [.int x0]) (rest := [.int 0, .ref a1]) (wr := []) ⟨hx, hb, hml, hown, hts⟩ (kX3_isAtRest_0 l hfl dC dI cI cZ cJ cD a0 a2 a3 a4 x0 _) q619 okX3_isAtRest hP hD hK hE hS hA [0] [] rfl rfl (by decide) (by decide) (by decide) (ci := 3) rfl 0 rfl rfl rfl hl.1 rfl (Nat.le_of_ble_eq_true rfl) ⟨rfl, rfl⟩ ⟨Nat.le_of_ble_eq_true rfl, Nat.le_of_ble_eq_true rfl⟩ ⟨Nat.le_of_ble_eq_true rfl, Nat.le_of_ble_eq_true rfl⟩ dL_isAtRest_4 (fun q9 ce H locs h1 h2 h3 hP hD hS => ?_)
  refine vx_catch (own := RL) (name := nISE) (E := nISE) hown [] ⟨0, 16, 19, 15⟩ [⟨0, 16, 22, 21⟩] htab (fun z hz => by cases hz) (by decide) (by decide) (hts _ q392) (hE.2.2.cISE.use rfl) h1 h2 h3 ?_
  refine W.eq (g2 := F0 m 19 ls [.ref q9]) rfl ?_
  refine lv_astore_n (lv' := [(3, .ref q9), (0, .ref a0), (1, .int x0), (2, .ref a1)]) hx hb dL_isAtRest_19 rfl hl (by decide) rfl (fun ls hl => ?_)
  refine lv_iconst (v := 1) hx hb dL_isAtRest_20 (by decide) ?_
  exact xr_i hx hb hr hlocks hP hD hS [] rfl (by decide) (Nat.le_of_ble_eq_true rfl) (Nat.le_of_ble_eq_true rfl) dL_isAtRest_21
set_option maxHeartbeats 4000000 in
set_option maxRecDepth 100000 in
theorem kX4_isAtRest_0 (l : Launch) (hfl : l.stackTraces = false) (dC : Nat → ClassId) (dI : Nat → Nat → Nat) (cI cZ cJ cD : ClassId) (a0 a1 a2 a3 a4 a5 a6 a7 a8 a9 a10 a11 a12 a13 : Nat) (x0 : Int32) (sz : Nat) : Met l yX4_isAtRest (ws_ yX4_isAtRest cX4_isAtRest 2 (some .boolean)) (rm_ 2 0 0) (PC (dC, dI) (tyL cI cZ cJ cD) [(a0, .inr (4, [.int 0, .int 0, .ref a1, .ref a2, .ref a3, .ref a4, .int 0, .ref a5, .ref a6, .ref a7, .ref a8, .int 0, .int 0, .int 0, .int 0, .ref a9, .ref a10, .ref a11, .ref a12, .ref a13]))] sz [.ref a0, .int x0]) (QR (dC, dI) [(a0, .inr (4, [.int 1, .int 0, .ref a1, .ref a2, .ref a3, .ref a4, .int 0, .ref a5, .ref a6, .ref a7, .ref a8, .int 0, .int 0, .int 0, .int 0, .ref a9, .ref a10, .ref a11, .ref a12, .ref a13]))] (some (.int 0)) (va_A [(a0, .inr (4, [.int 0, .int 0, .ref a1, .ref a2, .ref a3, .ref a4, .int 0, .ref a5, .ref a6, .ref a7, .ref a8, .int 0, .int 0, .int 0, .int 0, .ref a9, .ref a10, .ref a11, .ref a12, .ref a13]))] sz)) 0 0 (va_A [(a0, .inr (4, [.int 0, .int 0, .ref a1, .ref a2, .ref a3, .ref a4, .int 0, .ref a5, .ref a6, .ref a7, .ref a8, .int 0, .int 0, .int 0, .int 0, .ref a9, .ref a10, .ref a11, .ref a12, .ref a13]))] sz) := by
  refine xm_of (QQ := QR (dC, dI) [(a0, .inr (4, [.int 1, .int 0, .ref a1, .ref a2, .ref a3, .ref a4, .int 0, .ref a5, .ref a6, .ref a7, .ref a8, .int 0, .int 0, .int 0, .int 0, .ref a9, .ref a10, .ref a11, .ref a12, .ref a13]))] (some (.int 0))) (by decide +kernel) (Nat.le_of_ble_eq_true rfl) ?_
  intro p e s m below meth c A ls hx hb hr hml hown hts hlocks hin hK hP hD hE hA hS hl
  have hown : s.vm.findClass RX4 = some m.cls := hown
  have hl : lv_has ls 2 [(0, .ref a0), (1, .int x0)] := hl
  have hP : va_P (dC, dI) vwCl [(a0, .inr (4, [.int 0, .int 0, .ref a1, .ref a2, .ref a3, .ref a4, .int 0, .ref a5, .ref a6, .ref a7, .ref a8, .int 0, .int 0, .int 0, .int 0, .ref a9, .ref a10, .ref a11, .ref a12, .ref a13]))] s.heap := hP
  refine lv_aload_n hx hb dX4_isAtRest_0 rfl (lv_at hl 0 rfl) ?_
  refine lv_iload_n hx hb dX4_isAtRest_1 rfl (lv_at hl 1 rfl) ?_
  refine lv_iconst (v := 0) hx hb dX4_isAtRest_2 (by decide) ?_
  refine lv_iconst (v := 1) hx hb dX4_isAtRest_3 (by decide) ?_
  refine xc_V (b := a0) (wc := [(a0, .inr (4, [.int 0, .int 0, .ref a1, .ref a2, .ref a3, .ref a4, .int 0, .ref a5, .ref a6, .ref a7, .ref a8, .int 0, .int 0, .int 0, .int 0, .ref a9, .ref a10, .ref a11, .ref a12, .ref a13]))]) (As := [.int x0, .int 0, .int 1]) (rest := []) (wr := []) ⟨hx, hb, hml, hown, hts⟩ (kX4_asks__1 l hfl dC dI cI cZ cJ cD a0 a1 a2 a3 a4 a5 a6 a7 a8 a9 a10 a11 a12 a13 x0 _) q881 okX4_asks_ hP hD hK hE hS hA [0] [] rfl rfl (by decide) (by decide) (by decide) (ci := 4) rfl 0 rfl rfl rfl hl.1 rfl (Nat.le_of_ble_eq_true rfl) ⟨rfl, rfl⟩ ⟨Nat.le_of_ble_eq_true rfl, Nat.le_of_ble_eq_true rfl⟩ ⟨Nat.le_of_ble_eq_true rfl, Nat.le_of_ble_eq_true rfl⟩ dX4_isAtRest_4 (fun H locs hP hD hS => ?_)
  have hP : va_P (dC, dI) vwCl [(a0, .inr (4, [.int 1, .int 0, .ref a1, .ref a2, .ref a3, .ref a4, .int 0, .ref a5, .ref a6, .ref a7, .ref a8, .int 0, .int 0, .int 0, .int 0, .ref a9, .ref a10, .ref a11, .ref a12, .ref a13]))] H := hP
  have hD : va_D A [(a0, .inr (4, [.int 1, .int 0, .ref a1, .ref a2, .ref a3, .ref a4, .int 0, .ref a5, .ref a6, .ref a7, .ref a8, .int 0, .int 0, .int 0, .int 0, .ref a9, .ref a10, .ref a11, .ref a12, .ref a13]))] := hD
  refine W.eq (g2 := F0 m 7 ls [.int 0]) rfl ?_
  refine lv_if_eq (tgt := 22) hx hb dX4_isAtRest_7 (by decide) (fun _ => ?_) (fun h9 => absurd (by decide) h9)
  refine lv_iconst (v := 0) hx hb dX4_isAtRest_22 (by decide) ?_
  exact xr_z hx hb hr hlocks hP hD hS [0] rfl (by decide) rfl (Nat.le_of_ble_eq_true rfl) (Nat.le_of_ble_eq_true rfl) dX4_isAtRest_23
set_option maxHeartbeats 4000000 in
set_option maxRecDepth 100000 in
theorem kX3_endCount_0 (l : Launch) (hfl : l.stackTraces = false) (dC : Nat → ClassId) (dI : Nat → Nat → Nat) (cI cZ cJ cD : ClassId) (a0 a1 a2 a3 : Nat) (sz : Nat) : vx_Met l yX3_endCount (ws_ yX3_endCount cX3_endCount 3 (some .int)) (rm_ 2 1 6) (PC (dC, dI) (tyL cI cZ cJ cD) [(a0, .inr (3, [.ref a1, .ref a2, .ref a3, .int 0]))] sz [.ref a0]) QN (XR nISE (va_A [(a0, .inr (3, [.ref a1, .ref a2, .ref a3, .int 0]))] sz)) 1 6 (va_A [(a0, .inr (3, [.ref a1, .ref a2, .ref a3, .int 0]))] sz) := by
  refine xm_x (cls := nISE) (by decide +kernel) (Nat.le_of_ble_eq_true rfl) ?_
  intro p e s m below meth c A ls hx hb hr hml hown hts hlocks hno hK hP hD hE hA hS hl
  have hown : s.vm.findClass RX3 = some m.cls := hown
  have hl : lv_has ls 3 [(0, .ref a0)] := hl
  have hP : va_P (dC, dI) vwCl [(a0, .inr (3, [.ref a1, .ref a2, .ref a3, .int 0]))] s.heap := hP
  refine lv_aload_n hx hb dX3_endCount_0 rfl (lv_at hl 0 rfl) ?_
  refine xx_V (b := a0) (wc := [(a0, .inr (3, [.ref a1, .ref a2, .ref a3, .int 0]))]) (As := []) (rest := []) (wr := []) ⟨hx, hb, hml, hown, hts⟩ (kX3_requireExploration_0 l hfl dC dI cI cZ cJ cD a0 a1 a2 a3 _) q556 okX3_requireExploration hP hD hK hE hS hA [0] [] rfl rfl (by decide) (by decide) (by decide) (ci := 3) rfl 0 rfl rfl rfl hl.1 rfl (Nat.le_of_ble_eq_true rfl) ⟨rfl, rfl⟩ ⟨Nat.le_of_ble_eq_true rfl, Nat.le_of_ble_eq_true rfl⟩ ⟨Nat.le_of_ble_eq_true rfl, Nat.le_of_ble_eq_true rfl⟩ dX3_endCount_1 (fun q9 ce H locs h1 h2 h3 hP hD hS => ?_)
  exact xx_out hno hlocks h1 h2 h3 hS (Nat.le_of_ble_eq_true rfl) (Nat.le_of_ble_eq_true rfl)
set_option maxHeartbeats 4000000 in
set_option maxRecDepth 100000 in
theorem kL_endCount_0 (l : Launch) (hfl : l.stackTraces = false) (dC : Nat → ClassId) (dI : Nat → Nat → Nat) (cI cZ cJ cD : ClassId) (a0 a1 a2 a3 a4 : Nat) (sz : Nat) : Met l yL_endCount (wh_ yL_endCount cL_endCount 3 (some .int) [(0, 8, 11, 15)]) (rm_ 3 1 6) (PC (dC, dI) (tyL cI cZ cJ cD) [(a0, .inr (3, [.ref a2, .ref a3, .ref a4, .int 0]))] sz [.ref a0, .ref a1]) (QR (dC, dI) [] (some (.int 1)) (va_A [(a0, .inr (3, [.ref a2, .ref a3, .ref a4, .int 0]))] sz)) 1 6 (va_A [(a0, .inr (3, [.ref a2, .ref a3, .ref a4, .int 0]))] sz) := by
  refine xm_h (QQ := QR (dC, dI) [] (some (.int 1))) (by decide +kernel) (Nat.le_of_ble_eq_true rfl) ?_
  intro p e s m below meth c A ls hx hb hr hml hown hts hlocks htab hK hP hD hE hA hS hl
  have hown : s.vm.findClass RL = some m.cls := hown
  have hl : lv_has ls 3 [(0, .ref a0), (1, .ref a1)] := hl
  have hP : va_P (dC, dI) vwCl [(a0, .inr (3, [.ref a2, .ref a3, .ref a4, .int 0]))] s.heap := hP
  refine lv_aload_n hx hb dL_endCount_0 rfl (lv_at hl 1 rfl) ?_
  refine lv_iconst (v := 0) hx hb dL_endCount_1 (by decide) ?_
  refine lv_aload_n hx hb dL_endCount_2 rfl (lv_at hl 0 rfl) ?_
  refine xx_V (b := a0) (wc := [(a0, .inr (3, [.ref a2, .ref a3, .ref a4, .int 0]))]) (As := []) (rest := [.int 0, .ref a1]) (wr := []) ⟨hx, hb, hml, hown, hts⟩ (kX3_endCount_0 l hfl dC dI cI cZ cJ cD a0 a2 a3 a4 _) q631 okX3_endCount hP hD hK hE hS hA [0] [] rfl rfl (by decide) (by decide) (by decide) (ci := 3) rfl 0 rfl rfl rfl hl.1 rfl (Nat.le_of_ble_eq_true rfl) ⟨rfl, rfl⟩ ⟨Nat.le_of_ble_eq_true rfl, Nat.le_of_ble_eq_true rfl⟩ ⟨Nat.le_of_ble_eq_true rfl, Nat.le_of_ble_eq_true rfl⟩ dL_endCount_3 (fun q9 ce H locs h1 h2 h3 hP hD hS => ?_)
  refine vx_catch (own := RL) (name := nISE) (E := nISE) hown [] ⟨0, 8, 11, 15⟩ [] htab (fun z hz => by cases hz) (by decide) (by decide) (hts _ q392) (hE.2.2.cISE.use rfl) h1 h2 h3 ?_
  refine W.eq (g2 := F0 m 11 ls [.ref q9]) rfl ?_
  refine lv_astore_n (lv' := [(2, .ref q9), (0, .ref a0), (1, .ref a1)]) hx hb dL_endCount_11 rfl hl (by decide) rfl (fun ls hl => ?_)
  refine lv_iconst (v := 1) hx hb dL_endCount_12 (by decide) ?_
  exact xr_i hx hb hr hlocks hP hD hS [] rfl (by decide) (Nat.le_of_ble_eq_true rfl) (Nat.le_of_ble_eq_true rfl) dL_endCount_13
set_option maxHeartbeats 4000000 in
set_option maxRecDepth 100000 in
theorem kX4_endCount_0 (l : Launch) (hfl : l.stackTraces = false) (dC : Nat → ClassId) (dI : Nat → Nat → Nat) (cI cZ cJ cD : ClassId) (a0 a1 a2 a3 a4 a5 a6 a7 a8 a9 a10 a11 a12 a13 : Nat) (sz : Nat) : Met l yX4_endCount (ws_ yX4_endCount cX4_endCount 3 (some .int)) (rm_ 2 0 0) (PC (dC, dI) (tyL cI cZ cJ cD) [(a0, .inr (4, [.int 0, .int 0, .ref a1, .ref a2, .ref a3, .ref a4, .int 0, .ref a5, .ref a6, .ref a7, .ref a8, .int 0, .int 0, .int 0, .int 0, .ref a9, .ref a10, .ref a11, .ref a12, .ref a13]))] sz [.ref a0]) (QR (dC, dI) [(a0, .inr (4, [.int 1, .int 0, .ref a1, .ref a2, .ref a3, .ref a4, .int 0, .ref a5, .ref a6, .ref a7, .ref a8, .int 0, .int 0, .int 0, .int 0, .ref a9, .ref a10, .ref a11, .ref a12, .ref a13]))] (some (.int 0)) (va_A [(a0, .inr (4, [.int 0, .int 0, .ref a1, .ref a2, .ref a3, .ref a4, .int 0, .ref a5, .ref a6, .ref a7, .ref a8, .int 0, .int 0, .int 0, .int 0, .ref a9, .ref a10, .ref a11, .ref a12, .ref a13]))] sz)) 0 0 (va_A [(a0, .inr (4, [.int 0, .int 0, .ref a1, .ref a2, .ref a3, .ref a4, .int 0, .ref a5, .ref a6, .ref a7, .ref a8, .int 0, .int 0, .int 0, .int 0, .ref a9, .ref a10, .ref a11, .ref a12, .ref a13]))] sz) := by
  refine xm_of (QQ := QR (dC, dI) [(a0, .inr (4, [.int 1, .int 0, .ref a1, .ref a2, .ref a3, .ref a4, .int 0, .ref a5, .ref a6, .ref a7, .ref a8, .int 0, .int 0, .int 0, .int 0, .ref a9, .ref a10, .ref a11, .ref a12, .ref a13]))] (some (.int 0))) (by decide +kernel) (Nat.le_of_ble_eq_true rfl) ?_
  intro p e s m below meth c A ls hx hb hr hml hown hts hlocks hin hK hP hD hE hA hS hl
  have hown : s.vm.findClass RX4 = some m.cls := hown
  have hl : lv_has ls 3 [(0, .ref a0)] := hl
  have hP : va_P (dC, dI) vwCl [(a0, .inr (4, [.int 0, .int 0, .ref a1, .ref a2, .ref a3, .ref a4, .int 0, .ref a5, .ref a6, .ref a7, .ref a8, .int 0, .int 0, .int 0, .int 0, .ref a9, .ref a10, .ref a11, .ref a12, .ref a13]))] s.heap := hP
  refine lv_aload_n hx hb dX4_endCount_0 rfl (lv_at hl 0 rfl) ?_
  refine xc_V (b := a0) (wc := [(a0, .inr (4, [.int 0, .int 0, .ref a1, .ref a2, .ref a3, .ref a4, .int 0, .ref a5, .ref a6, .ref a7, .ref a8, .int 0, .int 0, .int 0, .int 0, .ref a9, .ref a10, .ref a11, .ref a12, .ref a13]))]) (As := []) (rest := []) (wr := []) ⟨hx, hb, hml, hown, hts⟩ (kX4_asks_0 l hfl dC dI cI cZ cJ cD a0 a1 a2 a3 a4 a5 a6 a7 a8 a9 a10 a11 a12 a13 _) q869 okX4_asks hP hD hK hE hS hA [0] [] rfl rfl (by decide) (by decide) (by decide) (ci := 4) rfl 0 rfl rfl rfl hl.1 rfl (Nat.le_of_ble_eq_true rfl) ⟨rfl, rfl⟩ ⟨Nat.le_of_ble_eq_true rfl, Nat.le_of_ble_eq_true rfl⟩ ⟨Nat.le_of_ble_eq_true rfl, Nat.le_of_ble_eq_true rfl⟩ dX4_endCount_1 (fun H locs hP hD hS => ?_)
  have hP : va_P (dC, dI) vwCl [(a0, .inr (4, [.int 1, .int 0, .ref a1, .ref a2, .ref a3, .ref a4, .int 0, .ref a5, .ref a6, .ref a7, .ref a8, .int 0, .int 0, .int 0, .int 0, .ref a9, .ref a10, .ref a11, .ref a12, .ref a13]))] H := hP
  have hD : va_D A [(a0, .inr (4, [.int 1, .int 0, .ref a1, .ref a2, .ref a3, .ref a4, .int 0, .ref a5, .ref a6, .ref a7, .ref a8, .int 0, .int 0, .int 0, .int 0, .ref a9, .ref a10, .ref a11, .ref a12, .ref a13]))] := hD
  refine W.eq (g2 := F0 m 4 ls [.int 0]) rfl ?_
  refine lv_if_ne (tgt := 9) hx hb dX4_endCount_4 (by decide) (fun h9 => absurd (by decide) h9) (fun _ => ?_)
  refine lv_iconst (v := 0) hx hb dX4_endCount_7 (by decide) ?_
  exact xr_i hx hb hr hlocks hP hD hS [0] rfl (by decide) (Nat.le_of_ble_eq_true rfl) (Nat.le_of_ble_eq_true rfl) dX4_endCount_8
set_option maxHeartbeats 4000000 in
set_option maxRecDepth 100000 in
theorem kX3_soonest_0 (l : Launch) (hfl : l.stackTraces = false) (dC : Nat → ClassId) (dI : Nat → Nat → Nat) (cI cZ cJ cD : ClassId) (a0 a1 a2 a3 : Nat) (x0 x1 : Int32) (sz : Nat) : vx_Met l yX3_soonest (ws_ yX3_soonest cX3_soonest 4 (some .int)) (rm_ 2 1 6) (PC (dC, dI) (tyL cI cZ cJ cD) [(a0, .inr (3, [.ref a1, .ref a2, .ref a3, .int 0]))] sz [.ref a0, .int x0, .int x1]) QN (XR nISE (va_A [(a0, .inr (3, [.ref a1, .ref a2, .ref a3, .int 0]))] sz)) 1 6 (va_A [(a0, .inr (3, [.ref a1, .ref a2, .ref a3, .int 0]))] sz) := by
  refine xm_x (cls := nISE) (by decide +kernel) (Nat.le_of_ble_eq_true rfl) ?_
  intro p e s m below meth c A ls hx hb hr hml hown hts hlocks hno hK hP hD hE hA hS hl
  have hown : s.vm.findClass RX3 = some m.cls := hown
  have hl : lv_has ls 4 [(0, .ref a0), (1, .int x0), (2, .int x1)] := hl
  have hP : va_P (dC, dI) vwCl [(a0, .inr (3, [.ref a1, .ref a2, .ref a3, .int 0]))] s.heap := hP
  refine lv_aload_n hx hb dX3_soonest_0 rfl (lv_at hl 0 rfl) ?_
  refine xx_V (b := a0) (wc := [(a0, .inr (3, [.ref a1, .ref a2, .ref a3, .int 0]))]) (As := []) (rest := []) (wr := []) ⟨hx, hb, hml, hown, hts⟩ (kX3_requireExploration_0 l hfl dC dI cI cZ cJ cD a0 a1 a2 a3 _) q556 okX3_requireExploration hP hD hK hE hS hA [0] [] rfl rfl (by decide) (by decide) (by decide) (ci := 3) rfl 0 rfl rfl rfl hl.1 rfl (Nat.le_of_ble_eq_true rfl) ⟨rfl, rfl⟩ ⟨Nat.le_of_ble_eq_true rfl, Nat.le_of_ble_eq_true rfl⟩ ⟨Nat.le_of_ble_eq_true rfl, Nat.le_of_ble_eq_true rfl⟩ dX3_soonest_1 (fun q9 ce H locs h1 h2 h3 hP hD hS => ?_)
  exact xx_out hno hlocks h1 h2 h3 hS (Nat.le_of_ble_eq_true rfl) (Nat.le_of_ble_eq_true rfl)
set_option maxHeartbeats 4000000 in
set_option maxRecDepth 100000 in
theorem kL_soonest_0 (l : Launch) (hfl : l.stackTraces = false) (dC : Nat → ClassId) (dI : Nat → Nat → Nat) (cI cZ cJ cD : ClassId) (a0 a1 a2 a3 a4 : Nat) (x0 x1 : Int32) (sz : Nat) : Met l yL_soonest (wh_ yL_soonest cL_soonest 5 (some .int) [(0, 10, 13, 15), (0, 10, 17, 21), (0, 10, 21, 13)]) (rm_ 3 1 6) (PC (dC, dI) (tyL cI cZ cJ cD) [(a0, .inr (3, [.ref a2, .ref a3, .ref a4, .int 0]))] sz [.ref a0, .int x0, .int x1, .ref a1]) (QR (dC, dI) [] (some (.int 1)) (va_A [(a0, .inr (3, [.ref a2, .ref a3, .ref a4, .int 0]))] sz)) 1 6 (va_A [(a0, .inr (3, [.ref a2, .ref a3, .ref a4, .int 0]))] sz) := by
  refine xm_h (QQ := QR (dC, dI) [] (some (.int 1))) (by decide +kernel) (Nat.le_of_ble_eq_true rfl) ?_
  intro p e s m below meth c A ls hx hb hr hml hown hts hlocks htab hK hP hD hE hA hS hl
  have hown : s.vm.findClass RL = some m.cls := hown
  have hl : lv_has ls 5 [(0, .ref a0), (1, .int x0), (2, .int x1), (3, .ref a1)] := hl
  have hP : va_P (dC, dI) vwCl [(a0, .inr (3, [.ref a2, .ref a3, .ref a4, .int 0]))] s.heap := hP
  refine lv_aload_n hx hb dL_soonest_0 rfl (lv_at hl 3 rfl) ?_
  refine lv_iconst (v := 0) hx hb dL_soonest_1 (by decide) ?_
  refine lv_aload_n hx hb dL_soonest_2 rfl (lv_at hl 0 rfl) ?_
  refine lv_iload_n hx hb dL_soonest_3 rfl (lv_at hl 1 rfl) ?_
  refine lv_iload_n hx hb dL_soonest_4 rfl (lv_at hl 2 rfl) ?_
  refine xx_V (b := a0) (wc := [(a0, .inr (3, [.ref a2, .ref a3, .ref a4, .int 0]))]) (As := [.int x0, .int x1]) (rest := [.int 0, .ref a1]) (wr := []) ⟨hx, hb, hml, hown, hts⟩ (kX3_soonest_0 l hfl dC dI cI cZ cJ cD a0 a2 a3 a4 x0 x1 _) q638 okX3_soonest hP hD hK hE hS hA [0] [] rfl rfl (by decide) (by decide) (by decide) (ci := 3) rfl 0 rfl rfl rfl hl.1 rfl (Nat.le_of_ble_eq_true rfl) ⟨rfl, rfl⟩ ⟨Nat.le_of_ble_eq_true rfl, Nat.le_of_ble_eq_true rfl⟩ ⟨Nat.le_of_ble_eq_true rfl, Nat.le_of_ble_eq_true rfl⟩ dL_soonest_5 (fun q9 ce H locs h1 h2 h3 hP hD hS => ?_)
  refine vx_catch (own := RL) (name := nISE) (E := nISE) hown [] ⟨0, 10, 13, 15⟩ [⟨0, 10, 17, 21⟩, ⟨0, 10, 21, 13⟩] htab (fun z hz => by cases hz) (by decide) (by decide) (hts _ q392) (hE.2.2.cISE.use rfl) h1 h2 h3 ?_
  refine W.eq (g2 := F0 m 13 ls [.ref q9]) rfl ?_
  refine lv_astore (lv' := [(4, .ref q9), (0, .ref a0), (1, .int x0), (2, .int x1), (3, .ref a1)]) hx hb dL_soonest_13 hl (by decide) rfl (fun ls hl => ?_)
  refine lv_iconst (v := 1) hx hb dL_soonest_15 (by decide) ?_
  exact xr_i hx hb hr hlocks hP hD hS [] rfl (by decide) (Nat.le_of_ble_eq_true rfl) (Nat.le_of_ble_eq_true rfl) dL_soonest_16
set_option maxHeartbeats 4000000 in
set_option maxRecDepth 100000 in
theorem kX4_soonest_0 (l : Launch) (hfl : l.stackTraces = false) (dC : Nat → ClassId) (dI : Nat → Nat → Nat) (cI cZ cJ cD : ClassId) (a0 a1 a2 a3 a4 a5 a6 a7 a8 a9 a10 a11 a12 a13 : Nat) (x0 x1 : Int32) (sz : Nat) : Met l yX4_soonest (ws_ yX4_soonest cX4_soonest 5 (some .int)) (rm_ 1 0 0) (PC (dC, dI) (tyL cI cZ cJ cD) [(a0, .inr (4, [.int 0, .int 0, .ref a1, .ref a2, .ref a3, .ref a4, .int 0, .ref a5, .ref a6, .ref a7, .ref a8, .int 0, .int 0, .int 0, .int 0, .ref a9, .ref a10, .ref a11, .ref a12, .ref a13]))] sz [.ref a0, .int x0, .int x1]) (QR (dC, dI) [(a0, .inr (4, [.int 1, .int 0, .ref a1, .ref a2, .ref a3, .ref a4, .int 0, .ref a5, .ref a6, .ref a7, .ref a8, .int 0, .int 0, .int 0, .int 0, .ref a9, .ref a10, .ref a11, .ref a12, .ref a13]))] (some (.int 0)) (va_A [(a0, .inr (4, [.int 0, .int 0, .ref a1, .ref a2, .ref a3, .ref a4, .int 0, .ref a5, .ref a6, .ref a7, .ref a8, .int 0, .int 0, .int 0, .int 0, .ref a9, .ref a10, .ref a11, .ref a12, .ref a13]))] sz)) 0 0 (va_A [(a0, .inr (4, [.int 0, .int 0, .ref a1, .ref a2, .ref a3, .ref a4, .int 0, .ref a5, .ref a6, .ref a7, .ref a8, .int 0, .int 0, .int 0, .int 0, .ref a9, .ref a10, .ref a11, .ref a12, .ref a13]))] sz) := by
  refine xm_of (QQ := QR (dC, dI) [(a0, .inr (4, [.int 1, .int 0, .ref a1, .ref a2, .ref a3, .ref a4, .int 0, .ref a5, .ref a6, .ref a7, .ref a8, .int 0, .int 0, .int 0, .int 0, .ref a9, .ref a10, .ref a11, .ref a12, .ref a13]))] (some (.int 0))) (by decide +kernel) (Nat.le_of_ble_eq_true rfl) ?_
  intro p e s m below meth c A ls hx hb hr hml hown hts hlocks hin hK hP hD hE hA hS hl
  have hown : s.vm.findClass RX4 = some m.cls := hown
  have hl : lv_has ls 5 [(0, .ref a0), (1, .int x0), (2, .int x1)] := hl
  have hP : va_P (dC, dI) vwCl [(a0, .inr (4, [.int 0, .int 0, .ref a1, .ref a2, .ref a3, .ref a4, .int 0, .ref a5, .ref a6, .ref a7, .ref a8, .int 0, .int 0, .int 0, .int 0, .ref a9, .ref a10, .ref a11, .ref a12, .ref a13]))] s.heap := hP
  refine lv_aload_n hx hb dX4_soonest_0 rfl (lv_at hl 0 rfl) ?_
  refine lv_aload_n hx hb dX4_soonest_1 rfl (lv_at hl 0 rfl) ?_
  refine va_get (D := (dC, dI)) (ci := 4) (v := .int 0) (C := RX4) (T := TX4) (N := 20) hx hb hts inX4 hown hK hP 0 rfl rfl 11 (by decide) (hts _ q698) (fun _ h9 => h9) rfl dX4_soonest_2 ?_
  refine lv_if_ne (tgt := 12) hx hb dX4_soonest_5 (by decide) (fun h9 => absurd (by decide) h9) (fun _ => ?_)
  refine lv_iconst (v := 1) hx hb dX4_soonest_8 (by decide) ?_
  refine lv_goto (tgt := 38) hx hb dX4_soonest_9 (by decide) ?_
  refine va_put (D := (dC, dI)) (ci := 4) (v := .int 1) (ty := .int) (C := RX4) (T := TX4) (N := 20) hx hb hts inX4 tyX4 tyX4_ok nmX4 hown hK hP hD hS 0 rfl rfl 0 (by decide) (hts _ q687) (fun _ h9 => h9) rfl (by decide +kernel) rfl rfl (Nat.le_of_ble_eq_true rfl) dX4_soonest_38 (fun H locs hP hD hS => ?_)
  have hP : va_P (dC, dI) vwCl [(a0, .inr (4, [.int 1, .int 0, .ref a1, .ref a2, .ref a3, .ref a4, .int 0, .ref a5, .ref a6, .ref a7, .ref a8, .int 0, .int 0, .int 0, .int 0, .ref a9, .ref a10, .ref a11, .ref a12, .ref a13]))] H := hP
  have hD : va_D A [(a0, .inr (4, [.int 1, .int 0, .ref a1, .ref a2, .ref a3, .ref a4, .int 0, .ref a5, .ref a6, .ref a7, .ref a8, .int 0, .int 0, .int 0, .int 0, .ref a9, .ref a10, .ref a11, .ref a12, .ref a13]))] := hD
  refine lv_aload_n hx hb dX4_soonest_41 rfl (lv_at hl 0 rfl) ?_
  refine va_get (D := (dC, dI)) (ci := 4) (v := .int 1) (C := RX4) (T := TX4) (N := 20) hx hb hts inX4 hown hK hP 0 rfl rfl 0 (by decide) (hts _ q687) (fun _ h9 => h9) rfl dX4_soonest_42 ?_
  refine lv_if_eq (tgt := 50) hx hb dX4_soonest_45 (by decide) (fun h9 => absurd h9 (by decide)) (fun _ => ?_)
  refine lv_iconst (v := 0) hx hb dX4_soonest_48 (by decide) ?_
  exact xr_i hx hb hr hlocks hP hD hS [0] rfl (by decide) (Nat.le_of_ble_eq_true rfl) (Nat.le_of_ble_eq_true rfl) dX4_soonest_49
set_option maxHeartbeats 4000000 in
set_option maxRecDepth 100000 in
theorem kX3_hasCycle_0 (l : Launch) (hfl : l.stackTraces = false) (dC : Nat → ClassId) (dI : Nat → Nat → Nat) (cI cZ cJ cD : ClassId) (a0 a1 a2 a3 : Nat) (sz : Nat) : vx_Met l yX3_hasCycle (ws_ yX3_hasCycle cX3_hasCycle 1 (some .boolean)) (rm_ 2 1 6) (PC (dC, dI) (tyL cI cZ cJ cD) [(a0, .inr (3, [.ref a1, .ref a2, .ref a3, .int 0]))] sz [.ref a0]) QN (XR nISE (va_A [(a0, .inr (3, [.ref a1, .ref a2, .ref a3, .int 0]))] sz)) 1 6 (va_A [(a0, .inr (3, [.ref a1, .ref a2, .ref a3, .int 0]))] sz) := by
  refine xm_x (cls := nISE) (by decide +kernel) (Nat.le_of_ble_eq_true rfl) ?_
  intro p e s m below meth c A ls hx hb hr hml hown hts hlocks hno hK hP hD hE hA hS hl
  have hown : s.vm.findClass RX3 = some m.cls := hown
  have hl : lv_has ls 1 [(0, .ref a0)] := hl
  have hP : va_P (dC, dI) vwCl [(a0, .inr (3, [.ref a1, .ref a2, .ref a3, .int 0]))] s.heap := hP
  refine lv_aload_n hx hb dX3_hasCycle_0 rfl (lv_at hl 0 rfl) ?_
  refine xx_V (b := a0) (wc := [(a0, .inr (3, [.ref a1, .ref a2, .ref a3, .int 0]))]) (As := []) (rest := []) (wr := []) ⟨hx, hb, hml, hown, hts⟩ (kX3_requireExploration_0 l hfl dC dI cI cZ cJ cD a0 a1 a2 a3 _) q556 okX3_requireExploration hP hD hK hE hS hA [0] [] rfl rfl (by decide) (by decide) (by decide) (ci := 3) rfl 0 rfl rfl rfl hl.1 rfl (Nat.le_of_ble_eq_true rfl) ⟨rfl, rfl⟩ ⟨Nat.le_of_ble_eq_true rfl, Nat.le_of_ble_eq_true rfl⟩ ⟨Nat.le_of_ble_eq_true rfl, Nat.le_of_ble_eq_true rfl⟩ dX3_hasCycle_1 (fun q9 ce H locs h1 h2 h3 hP hD hS => ?_)
  exact xx_out hno hlocks h1 h2 h3 hS (Nat.le_of_ble_eq_true rfl) (Nat.le_of_ble_eq_true rfl)
set_option maxHeartbeats 4000000 in
set_option maxRecDepth 100000 in
theorem kL_hasCycle_0 (l : Launch) (hfl : l.stackTraces = false) (dC : Nat → ClassId) (dI : Nat → Nat → Nat) (cI cZ cJ cD : ClassId) (a0 a1 a2 a3 a4 : Nat) (sz : Nat) : Met l yL_hasCycle (wh_ yL_hasCycle cL_hasCycle 3 (some .int) [(0, 15, 18, 15)]) (rm_ 3 1 6) (PC (dC, dI) (tyL cI cZ cJ cD) [(a0, .inr (3, [.ref a2, .ref a3, .ref a4, .int 0]))] sz [.ref a0, .ref a1]) (QR (dC, dI) [] (some (.int 1)) (va_A [(a0, .inr (3, [.ref a2, .ref a3, .ref a4, .int 0]))] sz)) 1 6 (va_A [(a0, .inr (3, [.ref a2, .ref a3, .ref a4, .int 0]))] sz) := by
  refine xm_h (QQ := QR (dC, dI) [] (some (.int 1))) (by decide +kernel) (Nat.le_of_ble_eq_true rfl) ?_
  intro p e s m below meth c A ls hx hb hr hml hown hts hlocks htab hK hP hD hE hA hS hl
  have hown : s.vm.findClass RL = some m.cls := hown
  have hl : lv_has ls 3 [(0, .ref a0), (1, .ref a1)] := hl
  have hP : va_P (dC, dI) vwCl [(a0, .inr (3, [.ref a2, .ref a3, .ref a4, .int 0]))] s.heap := hP
  refine lv_aload_n hx hb dL_hasCycle_0 rfl (lv_at hl 1 rfl) ?_
  refine lv_iconst (v := 0) hx hb dL_hasCycle_1 (by decide) ?_
  refine lv_aload_n hx hb dL_hasCycle_2 rfl (lv_at hl 0 rfl) ?_
  refine xx_V (b := a0) (wc := [(a0, .inr (3, [.ref a2, .ref a3, .ref a4, .int 0]))]) (As := []) (rest := [.int 0, .ref a1]) (wr := []) ⟨hx, hb, hml, hown, hts⟩ (kX3_hasCycle_0 l hfl dC dI cI cZ cJ cD a0 a2 a3 a4 _) q645 okX3_hasCycle hP hD hK hE hS hA [0] [] rfl rfl (by decide) (by decide) (by decide) (ci := 3) rfl 0 rfl rfl rfl hl.1 rfl (Nat.le_of_ble_eq_true rfl) ⟨rfl, rfl⟩ ⟨Nat.le_of_ble_eq_true rfl, Nat.le_of_ble_eq_true rfl⟩ ⟨Nat.le_of_ble_eq_true rfl, Nat.le_of_ble_eq_true rfl⟩ dL_hasCycle_3 (fun q9 ce H locs h1 h2 h3 hP hD hS => ?_)
  refine vx_catch (own := RL) (name := nISE) (E := nISE) hown [] ⟨0, 15, 18, 15⟩ [] htab (fun z hz => by cases hz) (by decide) (by decide) (hts _ q392) (hE.2.2.cISE.use rfl) h1 h2 h3 ?_
  refine W.eq (g2 := F0 m 18 ls [.ref q9]) rfl ?_
  refine lv_astore_n (lv' := [(2, .ref q9), (0, .ref a0), (1, .ref a1)]) hx hb dL_hasCycle_18 rfl hl (by decide) rfl (fun ls hl => ?_)
  refine lv_iconst (v := 1) hx hb dL_hasCycle_19 (by decide) ?_
  exact xr_i hx hb hr hlocks hP hD hS [] rfl (by decide) (Nat.le_of_ble_eq_true rfl) (Nat.le_of_ble_eq_true rfl) dL_hasCycle_20
